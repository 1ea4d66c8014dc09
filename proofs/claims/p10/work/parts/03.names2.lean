theorem in_r {big ws : List Cond} (ps : List Nat) (hp : ws = ps.filterMap (fun i => big[i]?)) : ∀ w ∈ ws, w ∈ big := by
  intro w hw
  rw [hp] at hw
  obtain ⟨i, -, hi⟩ := List.mem_filterMap.mp hw
  exact List.mem_of_getElem? hi
theorem inW_0 : ∀ w ∈ (vx_at0 RX12 131 "java/lang/IllegalArgumentException" ["java/lang/RuntimeException", "java/lang/Exception"]).filter goodWord, w ∈ lw_tbl := by decide +kernel
theorem inW_1 : ∀ w ∈ (vx_at0 RX7 52 "java/lang/IllegalArgumentException" ["java/lang/RuntimeException", "java/lang/Exception"]).filter goodWord, w ∈ lw_tbl := by decide +kernel
theorem inW_2 : ∀ w ∈ (vx_at0 RX12 146 "java/lang/IllegalStateException" ["java/lang/RuntimeException", "java/lang/Exception"]).filter goodWord, w ∈ lw_tbl := by decide +kernel
theorem inW_3 : ∀ w ∈ (vx_at0 RX12 153 "java/lang/UnsupportedOperationException" ["java/lang/RuntimeException", "java/lang/Exception"]).filter goodWord, w ∈ lw_tbl := by decide +kernel
theorem inW_4 : ∀ w ∈ (vx_at0 RX5 131 "java/lang/UnsupportedOperationException" ["java/lang/RuntimeException", "java/lang/Exception"]).filter goodWord, w ∈ lw_tbl := by decide +kernel
theorem inW_5 : ∀ w ∈ (vx_at0 RX12 171 "java/lang/IndexOutOfBoundsException" ["java/lang/RuntimeException", "java/lang/Exception"]).filter goodWord, w ∈ lw_tbl := by decide +kernel
set_option maxRecDepth 100000 in
theorem inC_0 : ∀ w ∈ tbA_0, w ∈ lw_tbl := in_r [181, 182, 147, 1662, 1663, 161, 412, 2340, 183, 184, 186, 187, 189, 637, 191, 148, 386, 638, 261, 262, 150, 639, 413, 414] (by decide +kernel)
set_option maxRecDepth 100000 in
theorem inC_1 : ∀ w ∈ tbA_1, w ∈ lw_tbl := in_r [152, 640, 438, 439, 153, 641, 448, 449, 154, 642, 577, 578, 159, 643, 590, 591, 160, 644, 648, 192, 193, 195, 240, 196] (by decide +kernel)
set_option maxRecDepth 100000 in
theorem inC_2 : ∀ w ∈ tbA_2, w ∈ lw_tbl := in_r [232, 234, 198, 149, 231, 241, 199, 200, 202, 203, 205, 207, 263, 264, 266, 267, 387, 269, 151, 388, 389, 390, 391, 270] (by decide +kernel)
set_option maxRecDepth 100000 in
theorem inC_3 : ∀ w ∈ tbA_3, w ∈ lw_tbl := in_r [271, 273, 274, 415, 416, 418, 419, 440, 441, 443, 444, 450, 451, 453, 564, 454, 565, 456, 155, 566, 457, 458, 460, 487] (by decide +kernel)
set_option maxRecDepth 100000 in
theorem inC_4 : ∀ w ∈ tbA_4, w ∈ lw_tbl := in_r [461, 462, 158, 489, 491, 493, 463, 464, 473, 475, 466, 467, 157, 477, 469, 470, 156, 472, 579, 580, 582, 583, 592, 593] (by decide +kernel)
set_option maxRecDepth 100000 in
theorem inC_5 : ∀ w ∈ tbA_5, w ∈ lw_tbl := in_r [595, 597, 598, 599, 600, 601, 596, 603, 605, 606, 609, 1664, 1665, 1667, 1668, 1669, 1670, 1671, 1672, 1673, 1674, 1675, 1676, 1677] (by decide +kernel)
set_option maxRecDepth 100000 in
theorem inC_6 : ∀ w ∈ tbA_6, w ∈ lw_tbl := in_r [1694, 1678, 1679, 1680, 1681, 1682, 1683, 1684, 1685, 1686, 1687, 1688, 1695, 1689, 1690, 1691, 1692, 1693, 1696, 1697, 1698, 1700, 1701, 1702] (by decide +kernel)
set_option maxRecDepth 100000 in
theorem inC_7 : ∀ w ∈ tbA_7, w ∈ lw_tbl := in_r [1703, 1704, 1705, 1706, 1707, 1708, 1709, 1710, 1711, 1926, 1712, 1434, 1713, 1717, 1720, 1721, 1722, 1723, 1724, 1725, 1726, 1727, 1728, 1729] (by decide +kernel)
set_option maxRecDepth 100000 in
theorem inC_8 : ∀ w ∈ tbA_8, w ∈ lw_tbl := in_r [1730, 1731, 1732, 1733, 1736, 1737, 1738, 1739, 1740, 1741, 1746, 1747, 1748, 1749, 1750, 1751, 1752, 1753, 1754, 1755, 1756, 1758, 1759, 1760] (by decide +kernel)
set_option maxRecDepth 100000 in
theorem inC_9 : ∀ w ∈ tbA_9, w ∈ lw_tbl := in_r [1761, 1762, 1763, 1764, 1765, 1766, 1767, 1769, 674, 675, 676, 678, 679, 681, 682, 683, 243, 236, 238, 242, 1931, 1932, 1933, 1699] (by decide +kernel)
set_option maxRecDepth 100000 in
theorem inC_10 : ∀ w ∈ tbA_10, w ∈ lw_tbl := in_r [1935, 1936, 685, 686, 687, 689, 690, 692, 693, 695, 696, 697, 699, 700, 701, 211, 213, 214, 703, 704, 705, 209, 1938, 1939] (by decide +kernel)
set_option maxRecDepth 100000 in
theorem inC_11 : ∀ w ∈ tbA_11, w ∈ lw_tbl := in_r [1940, 1942, 1943, 1945, 1946, 707, 708, 709, 711, 712, 714, 715, 716, 1948, 1949, 1950, 1952, 1953, 718, 719, 720, 722, 723, 724] (by decide +kernel)
set_option maxRecDepth 100000 in
theorem inC_12 : ∀ w ∈ tbA_12, w ∈ lw_tbl := in_r [1955, 1956, 1957, 726, 727, 728, 645, 730, 732, 0, 1959, 1960, 1961, 1714, 816, 817, 146, 819, 820, 821, 822, 1432, 165, 647] (by decide +kernel)
set_option maxRecDepth 100000 in
theorem inC_13 : ∀ w ∈ tbA_13, w ∈ lw_tbl := in_r [646, 824, 825, 826, 602, 758, 760, 1, 522, 604, 762, 763, 764, 567, 766, 767, 768, 828, 829, 830, 584, 832, 833, 834] (by decide +kernel)
set_option maxRecDepth 100000 in
theorem inC_14 : ∀ w ∈ tbA_14, w ∈ lw_tbl := in_r [836, 420, 421, 422, 423, 424, 837, 838, 839, 392, 393, 394, 841, 843, 3, 845, 847, 4, 849, 851, 5, 853, 855, 6] (by decide +kernel)
set_option maxRecDepth 100000 in
theorem inC_15 : ∀ w ∈ tbA_15, w ∈ lw_tbl := in_r [857, 859, 7, 924, 926, 9, 291, 928, 929, 931, 932, 933, 935, 937, 10, 939, 940, 941, 943, 944, 945, 277, 281, 282] (by decide +kernel)
set_option maxRecDepth 100000 in
theorem inC_16 : ∀ w ∈ tbA_16, w ∈ lw_tbl := in_r [287, 292, 295, 300, 304, 307, 310, 947, 949, 11, 314, 316, 951, 320, 322, 324, 328, 331, 334, 337, 340, 952, 953, 954] (by decide +kernel)
set_option maxRecDepth 100000 in
theorem inC_17 : ∀ w ∈ tbA_17, w ∈ lw_tbl := in_r [956, 957, 167, 959, 2360, 961, 963, 12, 313, 965, 966, 967, 311, 309, 969, 970, 971, 973, 975, 13, 978, 980, 14, 982] (by decide +kernel)
set_option maxRecDepth 100000 in
theorem inC_18 : ∀ w ∈ tbA_18, w ∈ lw_tbl := in_r [983, 984, 168, 2361, 986, 987, 988, 990, 2362, 992, 993, 994, 996, 997, 998, 1000, 1001, 169, 1003, 1004, 1006, 1008, 1009, 170] (by decide +kernel)
set_option maxRecDepth 100000 in
theorem inC_19 : ∀ w ∈ tbA_19, w ∈ lw_tbl := in_r [1011, 1012, 171, 1014, 1015, 1017, 1018, 1020, 1021, 1022, 1024, 1026, 1028, 1034, 1036, 15, 1038, 1039, 1040, 1042, 1044, 16, 294, 1046] (by decide +kernel)
set_option maxRecDepth 100000 in
theorem inC_20 : ∀ w ∈ tbA_20, w ∈ lw_tbl := in_r [1048, 17, 1050, 1051, 1052, 1054, 1056, 18, 1058, 1060, 19, 286, 1062, 1064, 20, 1066, 1067, 1068, 283, 1070, 1071, 1072, 1074, 1075] (by decide +kernel)
set_option maxRecDepth 100000 in
theorem inC_21 : ∀ w ∈ tbA_21, w ∈ lw_tbl := in_r [1076, 1078, 1080, 21, 288, 278, 1161, 1082, 1084, 22, 1086, 293, 1094, 1110, 1104, 1106, 1088, 1089, 1091, 1092, 166, 2363, 1096, 1097] (by decide +kernel)
set_option maxRecDepth 100000 in
theorem inC_22 : ∀ w ∈ tbA_22, w ∈ lw_tbl := in_r [1098, 1100, 1102, 23, 1108, 1112, 1114, 24, 297, 302, 1116, 1118, 25, 1120, 1122, 1123, 1124, 1126, 1128, 26, 2364, 1130, 1132, 27] (by decide +kernel)
set_option maxRecDepth 100000 in
theorem inC_23 : ∀ w ∈ tbA_23, w ∈ lw_tbl := in_r [1134, 1136, 28, 1138, 1140, 29, 312, 308, 1142, 1143, 1144, 1146, 1147, 1149, 30, 1151, 1157, 1159, 1163, 1153, 1155, 31, 1165, 1167] (by decide +kernel)
set_option maxRecDepth 100000 in
theorem inC_24 : ∀ w ∈ tbA_24, w ∈ lw_tbl := in_r [32, 1169, 1179, 1186, 1188, 1190, 1171, 1172, 1173, 1175, 1176, 1177, 1181, 1182, 1183, 1185, 1192, 1193, 1194, 1196, 1197, 1198, 1201, 1200] (by decide +kernel)
set_option maxRecDepth 100000 in
theorem inC_25 : ∀ w ∈ tbA_25, w ∈ lw_tbl := in_r [1202, 1203, 1205, 33, 1207, 1208, 1209, 1211, 1212, 1214, 34, 1216, 1218, 1220, 1222, 1224, 1226, 1228, 1230, 35, 305, 1232, 1233, 1234] (by decide +kernel)
set_option maxRecDepth 100000 in
theorem inC_26 : ∀ w ∈ tbA_26, w ∈ lw_tbl := in_r [284, 1236, 1237, 1238, 1240, 36, 290, 335, 1242, 1244, 315, 1246, 317, 1247, 341, 1269, 329, 1271, 332, 326, 1302, 1243, 1245, 1248] (by decide +kernel)
set_option maxRecDepth 100000 in
theorem inC_27 : ∀ w ∈ tbA_27, w ∈ lw_tbl := in_r [1249, 1250, 494, 1256, 496, 1258, 499, 1259, 501, 1261, 1262, 513, 1264, 1266, 515, 1267, 517, 503, 505, 507, 509, 511, 519, 521] (by decide +kernel)
set_option maxRecDepth 100000 in
theorem inC_28 : ∀ w ∈ tbA_28, w ∈ lw_tbl := in_r [523, 1252, 1253, 1254, 478, 479, 476, 1257, 1263, 1270, 1272, 1273, 1275, 37, 298, 338, 1277, 1300, 1278, 1279, 1280, 1281, 275, 279] (by decide +kernel)
set_option maxRecDepth 100000 in
theorem inC_29 : ∀ w ∈ tbA_29, w ∈ lw_tbl := in_r [1283, 1284, 1285, 1287, 1289, 38, 1291, 1293, 1295, 39, 1297, 1298, 1301, 1303, 1305, 40, 1307, 1309, 41, 500, 1311, 1313, 42, 497] (by decide +kernel)
set_option maxRecDepth 100000 in
theorem inC_30 : ∀ w ∈ tbA_30, w ∈ lw_tbl := in_r [1315, 1317, 43, 1319, 1321, 44, 495, 1323, 1324, 1325, 1327, 1329, 1331, 1333, 1335, 1328, 1330, 1332, 1337, 1339, 45, 296, 289, 1341] (by decide +kernel)
set_option maxRecDepth 100000 in
theorem inC_31 : ∀ w ∈ tbA_31, w ∈ lw_tbl := in_r [1407, 301, 1342, 1343, 1344, 1346, 1348, 46, 1350, 1352, 47, 1354, 1356, 48, 1405, 1362, 174, 1406, 1358, 1359, 173, 1361, 1364, 1365] (by decide +kernel)
set_option maxRecDepth 100000 in
theorem inC_32 : ∀ w ∈ tbA_32, w ∈ lw_tbl := in_r [1366, 1368, 1369, 175, 1371, 2344, 1372, 1392, 1393, 1394, 1396, 1398, 1399, 1400, 1402, 1404, 1403, 176, 1408, 1409, 1423, 325, 812, 813] (by decide +kernel)
set_option maxRecDepth 100000 in
theorem inC_33 : ∀ w ∈ tbA_33, w ∈ lw_tbl := in_r [814, 1411, 1412, 1413, 1415, 1416, 177, 1418, 1419, 1420, 1421, 1424, 1425, 1426, 1428, 1429, 1430, 806, 1963, 1964, 1965, 1716, 1715, 1718] (by decide +kernel)
set_option maxRecDepth 100000 in
theorem inC_34 : ∀ w ∈ tbA_34, w ∈ lw_tbl := in_r [1719, 1735, 1734, 1742, 1967, 1969, 70, 1743, 1744, 1971, 1973, 71, 1770, 1975, 1977, 72, 1979, 1981, 73, 1983, 1985, 74, 1987, 1989] (by decide +kernel)
set_option maxRecDepth 100000 in
theorem inC_35 : ∀ w ∈ tbA_35, w ∈ lw_tbl := in_r [75, 1991, 1993, 76, 1995, 1997, 77, 1999, 2001, 78, 2003, 2005, 79, 2007, 2009, 80, 2011, 2013, 81, 2015, 2017, 82, 2019, 2021] (by decide +kernel)
set_option maxRecDepth 100000 in
theorem inC_36 : ∀ w ∈ tbA_36, w ∈ lw_tbl := in_r [83, 2023, 2025, 84, 2027, 2029, 85, 2031, 2033, 86, 2035, 2036, 2038, 87, 2040, 2042, 88, 2044, 2046, 89, 2048, 2050, 90, 2060] (by decide +kernel)
set_option maxRecDepth 100000 in
theorem inC_37 : ∀ w ∈ tbA_37, w ∈ lw_tbl := in_r [2061, 2073, 2101, 2115, 2074, 2052, 2054, 91, 2056, 2058, 92, 2062, 2063, 2064, 2065, 2066, 2067, 2068, 2069, 2070, 2071, 2072, 2075, 2077] (by decide +kernel)
set_option maxRecDepth 100000 in
theorem inC_38 : ∀ w ∈ tbA_38, w ∈ lw_tbl := in_r [93, 2079, 2081, 94, 2083, 2085, 95, 2087, 2089, 96, 2096, 2091, 2093, 97, 2095, 2097, 2098, 2100, 2102, 2103, 2105, 98, 2107, 2109] (by decide +kernel)
set_option maxRecDepth 100000 in
theorem inC_39 : ∀ w ∈ tbA_39, w ∈ lw_tbl := in_r [99, 2111, 2113, 100, 2116, 2118, 101, 2120, 2122, 102, 2124, 2126, 103, 2128, 2130, 104, 2132, 2134, 105, 2136, 2138, 106, 2140, 2142] (by decide +kernel)
set_option maxRecDepth 100000 in
theorem inC_40 : ∀ w ∈ tbA_40, w ∈ lw_tbl := in_r [107, 2144, 2146, 108, 2148, 2150, 109, 734, 735, 736, 738, 739, 740, 608, 742, 743, 744, 2152, 2153, 2154, 1745, 1435, 1436, 1438] (by decide +kernel)
set_option maxRecDepth 100000 in
theorem inC_41 : ∀ w ∈ tbA_41, w ∈ lw_tbl := in_r [1439, 1440, 1441, 1442, 1448, 178, 1610, 179, 1444, 1445, 1446, 1463, 1464, 1465, 1467, 498, 514, 516, 518, 1468, 1470, 49, 520, 524] (by decide +kernel)
set_option maxRecDepth 100000 in
theorem inC_42 : ∀ w ∈ tbA_42, w ∈ lw_tbl := in_r [1472, 1473, 1474, 1476, 1478, 50, 1480, 1481, 1483, 51, 607, 488, 1499, 1501, 52, 492, 1509, 339, 327, 1510, 1511, 1507, 1508, 1513] (by decide +kernel)
set_option maxRecDepth 100000 in
theorem inC_43 : ∀ w ∈ tbA_43, w ∈ lw_tbl := in_r [1515, 54, 1597, 1598, 1599, 1560, 1562, 62, 1564, 336, 1565, 1566, 1567, 321, 1569, 323, 280, 1570, 1572, 63, 1574, 1575, 1576, 1582] (by decide +kernel)
set_option maxRecDepth 100000 in
theorem inC_44 : ∀ w ∈ tbA_44, w ∈ lw_tbl := in_r [1584, 65, 1517, 306, 1586, 1588, 66, 1590, 1591, 276, 754, 755, 756, 1522, 1523, 1525, 1527, 56, 502, 506, 504, 510, 1503, 1505] (by decide +kernel)
set_option maxRecDepth 100000 in
theorem inC_45 : ∀ w ∈ tbA_45, w ∈ lw_tbl := in_r [53, 1531, 1533, 57, 508, 233, 237, 235, 239, 1535, 1536, 1537, 1539, 1541, 58, 1543, 1544, 1545, 1547, 1549, 59, 490, 330, 1551] (by decide +kernel)
set_option maxRecDepth 100000 in
theorem inC_46 : ∀ w ∈ tbA_46, w ∈ lw_tbl := in_r [1553, 60, 1555, 1556, 1558, 61, 210, 208, 333, 1578, 1580, 64, 215, 212, 206, 204, 1593, 1595, 67, 1601, 1603, 68, 342, 319] (by decide +kernel)
set_option maxRecDepth 100000 in
theorem inC_47 : ∀ w ∈ tbA_47, w ∈ lw_tbl := in_r [299, 303, 1529, 1530, 1518, 1520, 55, 1605, 1607, 69, 1609, 751, 752, 512, 1612, 1613, 1614, 2156, 2157, 2158, 2160, 2162, 110, 2164] (by decide +kernel)
set_option maxRecDepth 100000 in
theorem inC_48 : ∀ w ∈ tbA_48, w ∈ lw_tbl := in_r [2166, 111, 2168, 2170, 112, 1757, 2172, 2174, 113, 1768, 2176, 2178, 114, 2180, 2182, 115, 2184, 2186, 116, 2188, 2190, 117, 2192, 2194] (by decide +kernel)
set_option maxRecDepth 100000 in
theorem inC_49 : ∀ w ∈ tbA_49, w ∈ lw_tbl := in_r [118, 2196, 2198, 119, 2200, 2202, 120, 2204, 2206, 121, 2208, 2210, 122, 2212, 2214, 123, 2216, 2218, 124, 2220, 2222, 125, 2224, 2226] (by decide +kernel)
set_option maxRecDepth 100000 in
theorem inC_50 : ∀ w ∈ tbA_50, w ∈ lw_tbl := in_r [126, 2228, 2230, 127, 2232, 2234, 128, 2236, 2238, 129, 2240, 2242, 130, 2244, 2246, 131, 2248, 2249, 2251, 132, 2253, 2255, 133, 2257] (by decide +kernel)
set_option maxRecDepth 100000 in
theorem inC_51 : ∀ w ∈ tbA_51, w ∈ lw_tbl := in_r [2259, 134, 2276, 2261, 2263, 135, 2273, 2274, 2275, 2265, 2267, 136, 2269, 2271, 137, 2277, 2279, 138, 2281, 2283, 139, 2285, 2287, 140] (by decide +kernel)
set_option maxRecDepth 100000 in
theorem inC_52 : ∀ w ∈ tbA_52, w ∈ lw_tbl := in_r [2289, 2291, 141, 2293, 2295, 142, 2297, 2299, 143, 2301, 2303, 144, 2305, 2307, 145, 1616, 1617, 1619, 1620, 1621, 1623, 1624, 1626, 1627] (by decide +kernel)
set_option maxRecDepth 100000 in
theorem inC_53 : ∀ w ∈ tbA_53, w ∈ lw_tbl := in_r [1628, 1629, 2309, 2310, 2311, 2313, 2314, 1927, 1928, 1929, 1631, 1632, 1634, 1635, 1636, 1637, 1647, 180, 318, 1639, 1640, 1641, 794, 796] (by decide +kernel)
set_option maxRecDepth 100000 in
theorem inC_54 : ∀ w ∈ tbA_54, w ∈ lw_tbl := in_r [2, 1643, 1644, 1645, 2316, 2317, 2318, 746, 747, 748, 750, 770, 771, 772, 2320, 2321, 2322, 774, 775, 776, 2324, 2325, 2326, 778] (by decide +kernel)
set_option maxRecDepth 100000 in
theorem inC_55 : ∀ w ∈ tbA_55, w ∈ lw_tbl := in_r [779, 780, 782, 783, 784, 2328, 2329, 2330, 786, 787, 788, 790, 791, 792, 798, 799, 800, 2332, 2333, 2334, 802, 803, 804, 807] (by decide +kernel)
set_option maxRecDepth 100000 in
theorem inC_56 : ∀ w ∈ tbA_56, w ∈ lw_tbl := in_r [808, 809, 810, 285, 2336, 2337, 2338, 181, 181, 181, 181, 181, 181, 181, 181, 181, 181, 181, 181, 181, 181, 181, 181, 181] (by decide +kernel)
set_option maxRecDepth 100000 in
theorem inC_57 : ∀ w ∈ tbA_57, w ∈ lw_tbl := in_r [185, 188, 194, 201, 265, 272, 417, 442, 452, 459, 465, 468, 471, 581, 594, 1666, 677, 680, 684, 1934, 1937, 688, 691, 694] (rfl)
set_option maxRecDepth 100000 in
theorem inC_58 : ∀ w ∈ tbA_58, w ∈ lw_tbl := in_r [698, 702, 706, 1941, 1944, 1947, 710, 713, 717, 1951, 1954, 721, 725, 1958, 729, 733, 1962, 818, 823, 827, 761, 765, 769, 831] (rfl)
set_option maxRecDepth 100000 in
theorem inC_59 : ∀ w ∈ tbA_59, w ∈ lw_tbl := in_r [835, 840, 844, 848, 852, 856, 860, 927, 930, 934, 938, 942, 946, 950, 955, 958, 964, 968, 972, 976, 981, 985, 989, 995] (rfl)
set_option maxRecDepth 100000 in
theorem inC_60 : ∀ w ∈ tbA_60, w ∈ lw_tbl := in_r [999, 1002, 1005, 1010, 1013, 1016, 1019, 1023, 1037, 1041, 1045, 1049, 1053, 1057, 1061, 1065, 1069, 1073, 1077, 1081, 1085, 1093, 1099, 1103] (rfl)
set_option maxRecDepth 100000 in
theorem inC_61 : ∀ w ∈ tbA_61, w ∈ lw_tbl := in_r [1115, 1119, 1125, 1129, 1133, 1137, 1141, 1145, 1150, 1156, 1168, 1174, 1178, 1184, 1195, 1199, 1206, 1210, 1215, 1231, 1235, 1241, 1251, 1255] (rfl)
set_option maxRecDepth 100000 in
theorem inC_62 : ∀ w ∈ tbA_62, w ∈ lw_tbl := in_r [1276, 1282, 1286, 1290, 1296, 1306, 1310, 1314, 1318, 1322, 1326, 1340, 1345, 1349, 1353, 1357, 1363, 1360, 1367, 1370, 1395, 1401, 1410, 815] (rfl)
set_option maxRecDepth 100000 in
theorem inC_63 : ∀ w ∈ tbA_63, w ∈ lw_tbl := in_r [1414, 1417, 1422, 1427, 1431, 1966, 1970, 1974, 1978, 1982, 1986, 1990, 1994, 1998, 2002, 2006, 2010, 2014, 2018, 2022, 2026, 2030, 2034, 2039] (rfl)
set_option maxRecDepth 100000 in
theorem inC_64 : ∀ w ∈ tbA_64, w ∈ lw_tbl := in_r [2043, 2047, 2051, 2055, 2059, 2078, 2082, 2086, 2090, 2094, 2099, 2106, 2110, 2114, 2119, 2123, 2127, 2131, 2135, 2139, 2143, 2147, 2151, 737] (rfl)
set_option maxRecDepth 100000 in
theorem inC_65 : ∀ w ∈ tbA_65, w ∈ lw_tbl := in_r [741, 745, 2155, 1437, 1443, 1447, 1466, 1471, 1475, 1479, 1484, 1596, 1512, 1600, 1563, 1568, 1573, 1577, 1585, 1589, 1592, 757, 1521, 1502] (rfl)
set_option maxRecDepth 100000 in
theorem inC_66 : ∀ w ∈ tbA_66, w ∈ lw_tbl := in_r [1534, 1538, 1542, 1546, 1550, 1554, 1559, 1581, 1604, 1528, 1516, 1506, 1608, 753, 1615, 2159, 2163, 2167, 2171, 2175, 2179, 2183, 2187, 2191] (rfl)
set_option maxRecDepth 100000 in
theorem inC_67 : ∀ w ∈ tbA_67, w ∈ lw_tbl := in_r [2195, 2199, 2203, 2207, 2211, 2215, 2219, 2223, 2227, 2231, 2235, 2239, 2243, 2247, 2252, 2256, 2260, 2264, 2268, 2272, 2280, 2284, 2288, 2292] (rfl)
set_option maxRecDepth 100000 in
theorem inC_68 : ∀ w ∈ tbA_68, w ∈ lw_tbl := in_r [2296, 2300, 2304, 2308, 1618, 1622, 1625, 1630, 2312, 2315, 1930, 1633, 1638, 1642, 797, 1646, 2319, 749, 773, 2323, 777, 2327, 781, 785] (rfl)
set_option maxRecDepth 100000 in
theorem inC_69 : ∀ w ∈ tbA_69, w ∈ lw_tbl := in_r [2331, 789, 793, 801, 2335, 805, 811, 2339] (rfl)
theorem inH_0 : ∀ w ∈ tbG_0, w ∈ lw_tbl := fun w h => (List.mem_append.mp h).elim (fun h => inC_0 w h) (fun h => (List.mem_append.mp h).elim (fun h => inC_1 w h) (fun h => (List.mem_append.mp h).elim (fun h => inC_2 w h) (fun h => (List.mem_append.mp h).elim (fun h => inC_3 w h) (fun h => (List.mem_append.mp h).elim (fun h => inC_4 w h) (fun h => (List.mem_append.mp h).elim (fun h => inC_5 w h) (fun h => (List.mem_append.mp h).elim (fun h => inC_6 w h) (fun h => (List.mem_append.mp h).elim (fun h => inC_7 w h) (fun h => (List.mem_append.mp h).elim (fun h => inC_8 w h) (fun h => inC_9 w h)))))))))
theorem inH_1 : ∀ w ∈ tbG_1, w ∈ lw_tbl := fun w h => (List.mem_append.mp h).elim (fun h => inC_10 w h) (fun h => (List.mem_append.mp h).elim (fun h => inC_11 w h) (fun h => (List.mem_append.mp h).elim (fun h => inC_12 w h) (fun h => (List.mem_append.mp h).elim (fun h => inC_13 w h) (fun h => (List.mem_append.mp h).elim (fun h => inC_14 w h) (fun h => (List.mem_append.mp h).elim (fun h => inC_15 w h) (fun h => (List.mem_append.mp h).elim (fun h => inC_16 w h) (fun h => (List.mem_append.mp h).elim (fun h => inC_17 w h) (fun h => (List.mem_append.mp h).elim (fun h => inC_18 w h) (fun h => inC_19 w h)))))))))
theorem inH_2 : ∀ w ∈ tbG_2, w ∈ lw_tbl := fun w h => (List.mem_append.mp h).elim (fun h => inC_20 w h) (fun h => (List.mem_append.mp h).elim (fun h => inC_21 w h) (fun h => (List.mem_append.mp h).elim (fun h => inC_22 w h) (fun h => (List.mem_append.mp h).elim (fun h => inC_23 w h) (fun h => (List.mem_append.mp h).elim (fun h => inC_24 w h) (fun h => (List.mem_append.mp h).elim (fun h => inC_25 w h) (fun h => (List.mem_append.mp h).elim (fun h => inC_26 w h) (fun h => (List.mem_append.mp h).elim (fun h => inC_27 w h) (fun h => (List.mem_append.mp h).elim (fun h => inC_28 w h) (fun h => inC_29 w h)))))))))
theorem inH_3 : ∀ w ∈ tbG_3, w ∈ lw_tbl := fun w h => (List.mem_append.mp h).elim (fun h => inC_30 w h) (fun h => (List.mem_append.mp h).elim (fun h => inC_31 w h) (fun h => (List.mem_append.mp h).elim (fun h => inC_32 w h) (fun h => (List.mem_append.mp h).elim (fun h => inC_33 w h) (fun h => (List.mem_append.mp h).elim (fun h => inC_34 w h) (fun h => (List.mem_append.mp h).elim (fun h => inC_35 w h) (fun h => (List.mem_append.mp h).elim (fun h => inC_36 w h) (fun h => (List.mem_append.mp h).elim (fun h => inC_37 w h) (fun h => (List.mem_append.mp h).elim (fun h => inC_38 w h) (fun h => inC_39 w h)))))))))
theorem inH_4 : ∀ w ∈ tbG_4, w ∈ lw_tbl := fun w h => (List.mem_append.mp h).elim (fun h => inC_40 w h) (fun h => (List.mem_append.mp h).elim (fun h => inC_41 w h) (fun h => (List.mem_append.mp h).elim (fun h => inC_42 w h) (fun h => (List.mem_append.mp h).elim (fun h => inC_43 w h) (fun h => (List.mem_append.mp h).elim (fun h => inC_44 w h) (fun h => (List.mem_append.mp h).elim (fun h => inC_45 w h) (fun h => (List.mem_append.mp h).elim (fun h => inC_46 w h) (fun h => (List.mem_append.mp h).elim (fun h => inC_47 w h) (fun h => (List.mem_append.mp h).elim (fun h => inC_48 w h) (fun h => inC_49 w h)))))))))
theorem inH_5 : ∀ w ∈ tbG_5, w ∈ lw_tbl := fun w h => (List.mem_append.mp h).elim (fun h => inC_50 w h) (fun h => (List.mem_append.mp h).elim (fun h => inC_51 w h) (fun h => (List.mem_append.mp h).elim (fun h => inC_52 w h) (fun h => (List.mem_append.mp h).elim (fun h => inC_53 w h) (fun h => (List.mem_append.mp h).elim (fun h => inC_54 w h) (fun h => (List.mem_append.mp h).elim (fun h => inC_55 w h) (fun h => (List.mem_append.mp h).elim (fun h => inC_56 w h) (fun h => (List.mem_append.mp h).elim (fun h => inC_57 w h) (fun h => (List.mem_append.mp h).elim (fun h => inC_58 w h) (fun h => inC_59 w h)))))))))
theorem inH_6 : ∀ w ∈ tbG_6, w ∈ lw_tbl := fun w h => (List.mem_append.mp h).elim (fun h => inC_60 w h) (fun h => (List.mem_append.mp h).elim (fun h => inC_61 w h) (fun h => (List.mem_append.mp h).elim (fun h => inC_62 w h) (fun h => (List.mem_append.mp h).elim (fun h => inC_63 w h) (fun h => (List.mem_append.mp h).elim (fun h => inC_64 w h) (fun h => (List.mem_append.mp h).elim (fun h => inC_65 w h) (fun h => (List.mem_append.mp h).elim (fun h => inC_66 w h) (fun h => (List.mem_append.mp h).elim (fun h => inC_67 w h) (fun h => (List.mem_append.mp h).elim (fun h => inC_68 w h) (fun h => inC_69 w h)))))))))
theorem tbA_in : ∀ w ∈ tbA, w ∈ lw_tbl := fun w h => (List.mem_append.mp h).elim (fun h => inH_0 w h) (fun h => (List.mem_append.mp h).elim (fun h => inH_1 w h) (fun h => (List.mem_append.mp h).elim (fun h => inH_2 w h) (fun h => (List.mem_append.mp h).elim (fun h => inH_3 w h) (fun h => (List.mem_append.mp h).elim (fun h => inH_4 w h) (fun h => (List.mem_append.mp h).elim (fun h => inH_5 w h) (fun h => inH_6 w h))))))
theorem inL_Jx4a65c : ∀ w ∈ wsJx4a65c0, w ∈ lw_tbl := by decide +kernel
theorem inL_X1 : ∀ w ∈ wsX10, w ∈ lw_tbl := by decide +kernel
theorem inL_X2 : ∀ w ∈ wsX20, w ∈ lw_tbl := by decide +kernel
theorem inL_X3 : ∀ w ∈ wsX30, w ∈ lw_tbl := by decide +kernel
theorem inL_X4 : ∀ w ∈ wsX40, w ∈ lw_tbl := by decide +kernel
theorem inL_X5 : ∀ w ∈ wsX50, w ∈ lw_tbl := by decide +kernel
theorem inL_X6 : ∀ w ∈ wsX60, w ∈ lw_tbl := by decide +kernel
theorem inL_X7 : ∀ w ∈ wsX70, w ∈ lw_tbl := by decide +kernel
theorem inL_X8 : ∀ w ∈ wsX80, w ∈ lw_tbl := by decide +kernel
theorem inL_X9 : ∀ w ∈ wsX90, w ∈ lw_tbl := by decide +kernel
theorem inL_X10 : ∀ w ∈ wsX100, w ∈ lw_tbl := by decide +kernel
theorem inL_X12 : ∀ w ∈ wsX120, w ∈ lw_tbl := by decide +kernel
theorem inL_X13 : ∀ w ∈ wsX130, w ∈ lw_tbl := by decide +kernel
theorem tbF_in : ∀ w ∈ tbF, w ∈ lw_tbl := fun w h => (List.mem_append.mp h).elim (fun h => inL_Jx4a65c w h) (fun h => (List.mem_append.mp h).elim (fun h => inL_X1 w h) (fun h => (List.mem_append.mp h).elim (fun h => inL_X2 w h) (fun h => (List.mem_append.mp h).elim (fun h => inL_X3 w h) (fun h => (List.mem_append.mp h).elim (fun h => inL_X4 w h) (fun h => (List.mem_append.mp h).elim (fun h => inL_X5 w h) (fun h => (List.mem_append.mp h).elim (fun h => inL_X6 w h) (fun h => (List.mem_append.mp h).elim (fun h => inL_X7 w h) (fun h => (List.mem_append.mp h).elim (fun h => inL_X8 w h) (fun h => (List.mem_append.mp h).elim (fun h => inL_X9 w h) (fun h => (List.mem_append.mp h).elim (fun h => inL_X10 w h) (fun h => (List.mem_append.mp h).elim (fun h => inL_X12 w h) (fun h => inL_X13 w h))))))))))))
theorem tbX_in : ∀ w ∈ tbX, w ∈ lw_tbl := fun w h => (List.mem_append.mp h).elim (fun h => inW_0 w h) (fun h => (List.mem_append.mp h).elim (fun h => inW_1 w h) (fun h => (List.mem_append.mp h).elim (fun h => inW_2 w h) (fun h => (List.mem_append.mp h).elim (fun h => inW_3 w h) (fun h => (List.mem_append.mp h).elim (fun h => inW_4 w h) (fun h => inW_5 w h)))))
theorem tb_in : ∀ w ∈ tb, w ∈ lw_tbl := fun w h => (List.mem_append.mp h).elim (tbA_in w) (fun h => (List.mem_append.mp h).elim (tbF_in w) (tbX_in w))
