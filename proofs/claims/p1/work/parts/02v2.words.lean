-- ===== the law's words stand in the tables =====
theorem mem_r {big : List Cond} (ws : List Cond) (ps : List Nat) (hp : ws = ps.filterMap (fun i => big[i]?)) : ∀ w ∈ ws, w ∈ big := by
  intro w hw
  rw [hp] at hw
  obtain ⟨i, -, hi⟩ := List.mem_filterMap.mp hw
  exact List.mem_of_getElem? hi
theorem wl_r1 : ∀ w ∈ wsL_law0_r1, w ∈ lw_tbl := mem_r _ [81, 82, 43, 1234, 1235, 45, 2048, 2049, 83, 84, 85, 86, 87, 88, 89, 123, 91, 124, 93, 125, 95, 126, 97, 127] (by decide +kernel)
theorem wl_r2 : ∀ w ∈ wsL_law0_r2, w ∈ lw_tbl := mem_r _ [99, 128, 122, 129, 101, 44, 103, 104, 105, 1236, 1237, 1238, 1239, 1240, 1241, 48, 1271, 1272, 1273, 1274, 1275, 1309, 1276, 1277] (by decide +kernel)
theorem wl_r3 : ∀ w ∈ wsL_law0_r3, w ∈ lw_tbl := mem_r _ [1278, 1279, 1280, 1281, 1242, 1243, 1244, 1252, 1254, 1245, 1246, 47, 1247, 1258, 1248, 1249, 46, 1250, 1251, 211, 212, 42, 213, 214] (by decide +kernel)
theorem wl_r4 : ∀ w ∈ wsL_law0_r4, w ∈ lw_tbl := mem_r _ [215, 216, 217, 218, 219, 220, 221, 225, 52, 222, 223, 224, 297, 298, 299, 300, 301, 302, 303, 304, 305, 307, 308, 309] (by decide +kernel)
theorem wl_r5 : ∀ w ∈ wsL_law0_r5, w ∈ lw_tbl := mem_r _ [1314, 1315, 1316, 1317, 1269, 1318, 1319, 1320, 1321, 1322, 1323, 1324, 1325, 1326, 1327, 1328, 1329, 1330, 1331, 1332, 1333, 1334, 1335, 1336] (by decide +kernel)
theorem wl_r6 : ∀ w ∈ wsL_law0_r6, w ∈ lw_tbl := mem_r _ [1338, 18, 1339, 1310, 1311, 1312, 1313, 310, 311, 312, 313, 314, 315, 316, 317, 318, 53, 319, 1340, 1341, 1342, 1343, 1344, 320] (by decide +kernel)
theorem wl_r7 : ∀ w ∈ wsL_law0_r7, w ∈ lw_tbl := mem_r _ [321, 322, 324, 325, 326, 327, 328, 54, 130, 344, 55, 345, 346, 347, 348, 351, 349, 350, 1345, 1346, 1347, 1348, 1350, 1354] (by decide +kernel)
theorem wl_r8 : ∀ w ∈ wsL_law0_r8, w ∈ lw_tbl := mem_r _ [1356, 1358, 1257, 1360, 1363, 1365, 1367, 1261, 1260, 1368, 1370, 19, 1371, 1372, 1374, 20, 1375, 1376, 1378, 21, 1379, 1428, 477, 478] (by decide +kernel)
theorem wl_r9 : ∀ w ∈ wsL_law0_r9, w ∈ lw_tbl := mem_r _ [1429, 1380, 1381, 56, 1382, 1383, 1384, 1385, 1386, 1387, 1388, 1389, 57, 1390, 1391, 2078, 1392, 1417, 1418, 1419, 1420, 1421, 1423, 1424] (by decide +kernel)
theorem wl_r10 : ∀ w ∈ wsL_law0_r10, w ∈ lw_tbl := mem_r _ [816, 817, 1425, 1427, 1426, 58, 359, 360, 361, 362, 386, 387, 388, 389, 390, 392, 1, 393, 394, 59, 407, 408, 409, 410] (by decide +kernel)
theorem wl_r11 : ∀ w ∈ wsL_law0_r11, w ∈ lw_tbl := mem_r _ [411, 412, 413, 1430, 1431, 1432, 1433, 1434, 1436, 22, 1437, 1438, 1440, 23, 1441, 1442, 1444, 24, 1445, 1465, 1447, 1450, 1452, 1454] (by decide +kernel)
theorem wl_r12 : ∀ w ∈ wsL_law0_r12, w ∈ lw_tbl := mem_r _ [1455, 1456, 62, 1457, 1458, 1459, 63, 1460, 1461, 1462, 1463, 1464, 414, 415, 416, 418, 419, 420, 421, 430, 64, 422, 424, 2] (by decide +kernel)
theorem wl_r13 : ∀ w ∈ wsL_law0_r13, w ∈ lw_tbl := mem_r _ [425, 936, 426, 427, 428, 76, 429, 927, 553, 929, 446, 447, 448, 449, 450, 451, 452, 453, 1466, 1467, 1468, 1469, 1471, 1473] (by decide +kernel)
theorem wl_r14 : ∀ w ∈ wsL_law0_r14, w ∈ lw_tbl := mem_r _ [25, 1474, 1537, 1270, 1476, 1479, 1481, 1483, 1484, 1485, 65, 1486, 1487, 1488, 1493, 1489, 1491, 1259, 1492, 1504, 1508, 1510, 1512, 1490] (by decide +kernel)
theorem wl_r15 : ∀ w ∈ wsL_law0_r15, w ∈ lw_tbl := mem_r _ [1514, 1517, 1519, 1521, 1255, 1522, 1523, 1524, 1525, 1538, 1539, 1540, 78, 1541, 1879, 1875, 1861, 1877, 1873, 1543, 1544, 1545, 1546, 61] (by decide +kernel)
theorem wl_r16 : ∀ w ∈ wsL_law0_r16, w ∈ lw_tbl := mem_r _ [1547, 1548, 1549, 1550, 1551, 2097, 1552, 1553, 1554, 1555, 1556, 2096, 1558, 1559, 1560, 1561, 1562, 1563, 1564, 1565, 1566, 1567, 67, 1568] (by decide +kernel)
theorem wl_r17 : ∀ w ∈ wsL_law0_r17, w ∈ lw_tbl := mem_r _ [1572, 1573, 1569, 1570, 1571, 1574, 1575, 1576, 1577, 1578, 68, 1579, 1580, 1581, 1582, 1583, 1584, 1585, 1586, 1587, 1588, 1589, 1590, 1591] (by decide +kernel)
theorem wl_r18 : ∀ w ∈ wsL_law0_r18, w ∈ lw_tbl := mem_r _ [1592, 1593, 1594, 1595, 1597, 1598, 1599, 1600, 1601, 1602, 1603, 1604, 1605, 1606, 1608, 1610, 1612, 1613, 1614, 1615, 1616, 69, 1617, 1618] (by decide +kernel)
theorem wl_r19 : ∀ w ∈ wsL_law0_r19, w ∈ lw_tbl := mem_r _ [1619, 1620, 1621, 1622, 1623, 1624, 1625, 454, 455, 456, 457, 458, 459, 460, 461, 463, 3, 464, 1626, 1627, 1628, 1629, 1630, 1632] (by decide +kernel)
theorem wl_r20 : ∀ w ∈ wsL_law0_r20, w ∈ lw_tbl := mem_r _ [26, 1633, 465, 466, 467, 468, 469, 470, 471, 476, 472, 474, 4, 475, 136, 171, 172, 173, 174, 935, 566, 568, 931, 933] (by decide +kernel)
theorem wl_r21 : ∀ w ∈ wsL_law0_r21, w ∈ lw_tbl := mem_r _ [175, 176, 177, 178, 908, 179, 180, 181, 182, 910, 183, 184, 185, 77, 186, 907, 1634, 1635, 1636, 1637, 1639, 479, 480, 481] (by decide +kernel)
theorem wl_r22 : ∀ w ∈ wsL_law0_r22, w ∈ lw_tbl := mem_r _ [482, 483, 484, 485, 486, 487, 488, 489, 490, 491, 1640, 1641, 1642, 1643, 1644, 1645, 1646, 1647, 1649, 27, 1650, 492, 493, 494] (by decide +kernel)
theorem wl_r23 : ∀ w ∈ wsL_law0_r23, w ∈ lw_tbl := mem_r _ [496, 497, 498, 499, 504, 66, 500, 501, 502, 503, 1651, 1652, 1653, 1654, 1656, 1659, 1661, 1663, 1664, 1666, 28, 1667, 520, 521] (by decide +kernel)
theorem wl_r24 : ∀ w ∈ wsL_law0_r24, w ∈ lw_tbl := mem_r _ [522, 523, 524, 525, 526, 1668, 1669, 1670, 1671, 527, 528, 529, 530, 531, 532, 533, 131, 543, 70, 534, 535, 536, 538, 539] (by decide +kernel)
theorem wl_r25 : ∀ w ∈ wsL_law0_r25, w ∈ lw_tbl := mem_r _ [540, 544, 545, 546, 547, 548, 560, 550, 562, 552, 555, 556, 558, 1672, 1673, 1674, 1675, 1677, 1678, 71, 1679, 1680, 1681, 1682] (by decide +kernel)
theorem wl_r26 : ∀ w ∈ wsL_law0_r26, w ∈ lw_tbl := mem_r _ [1683, 1693, 1696, 1685, 1687, 1689, 1691, 1684, 588, 589, 590, 591, 592, 593, 594, 567, 605, 606, 72, 595, 597, 5, 598, 600] (by decide +kernel)
theorem wl_r27 : ∀ w ∈ wsL_law0_r27, w ∈ lw_tbl := mem_r _ [602, 6, 603, 928, 607, 608, 609, 610, 611, 612, 613, 614, 616, 629, 630, 631, 632, 565, 1715, 1716, 1717, 1718, 1677, 1719] (by decide +kernel)
theorem wl_r28 : ∀ w ∈ wsL_law0_r28, w ∈ lw_tbl := mem_r _ [1721, 29, 1722, 633, 634, 635, 636, 637, 638, 639, 570, 642, 643, 73, 644, 645, 646, 647, 662, 648, 649, 650, 651, 652] (by decide +kernel)
theorem wl_r29 : ∀ w ∈ wsL_law0_r29, w ∈ lw_tbl := mem_r _ [653, 656, 659, 661, 672, 673, 674, 675, 569, 1723, 1724, 1725, 1726, 676, 677, 678, 679, 680, 681, 682, 683, 684, 685, 561] (by decide +kernel)
theorem wl_r30 : ∀ w ∈ wsL_law0_r30, w ∈ lw_tbl := mem_r _ [687, 688, 689, 690, 694, 692, 693, 695, 696, 697, 698, 1727, 1728, 1729, 1730, 1731, 1732, 1733, 699, 700, 701, 702, 703, 704] (by decide +kernel)
theorem wl_r31 : ∀ w ∈ wsL_law0_r31, w ∈ lw_tbl := mem_r _ [705, 1734, 1735, 1736, 1737, 706, 707, 708, 709, 710, 711, 712, 713, 714, 715, 716, 717, 718, 719, 720, 1738, 1739, 1740, 1741] (by decide +kernel)
theorem wl_r32 : ∀ w ∈ wsL_law0_r32, w ∈ lw_tbl := mem_r _ [1742, 1743, 1744, 1745, 1746, 1747, 1748, 1749, 721, 722, 723, 724, 725, 726, 727, 132, 729, 74, 730, 731, 732, 733, 738, 734] (by decide +kernel)
theorem wl_r33 : ∀ w ∈ wsL_law0_r33, w ∈ lw_tbl := mem_r _ [736, 737, 1750, 1751, 1752, 1753, 1754, 1755, 75, 1756, 1757, 1758, 1759, 1763, 1765, 1767, 1769, 1760, 1761, 1762, 748, 749, 750, 751] (by decide +kernel)
theorem wl_r34 : ∀ w ∈ wsL_law0_r34, w ∈ lw_tbl := mem_r _ [752, 753, 754, 755, 757, 7, 758, 760, 761, 762, 763, 764, 766, 8, 767, 770, 771, 772, 773, 1780, 1781, 1782, 1783, 1754] (by decide +kernel)
theorem wl_r35 : ∀ w ∈ wsL_law0_r35, w ∈ lw_tbl := mem_r _ [1784, 1786, 30, 1787, 1788, 1790, 31, 1791, 774, 775, 776, 777, 778, 779, 780, 1792, 1793, 1794, 1795, 781, 782, 783, 784, 785] (by decide +kernel)
theorem wl_r36 : ∀ w ∈ wsL_law0_r36, w ∈ lw_tbl := mem_r _ [786, 787, 930, 617, 735, 557, 615, 944, 946, 112, 788, 790, 9, 791, 793, 794, 795, 932, 934, 797, 799, 10, 800, 802] (by decide +kernel)
theorem wl_r37 : ∀ w ∈ wsL_law0_r37, w ∈ lw_tbl := mem_r _ [198, 199, 200, 903, 804, 805, 806, 807, 108, 110, 810, 811, 812, 813, 815, 814, 819, 820, 821, 822, 823, 206, 207, 208] (by decide +kernel)
theorem wl_r38 : ∀ w ∈ wsL_law0_r38, w ∈ lw_tbl := mem_r _ [209, 210, 202, 203, 204, 904, 825, 826, 827, 828, 829, 830, 831, 832, 833, 909, 1796, 1797, 1798, 1799, 1800, 1802, 32, 1803] (by decide +kernel)
theorem wl_r39 : ∀ w ∈ wsL_law0_r39, w ∈ lw_tbl := mem_r _ [1804, 1806, 33, 1807, 1808, 1810, 34, 1811, 1812, 1813, 1814, 1815, 1816, 834, 835, 836, 837, 838, 839, 840, 841, 842, 843, 844] (by decide +kernel)
theorem wl_r40 : ∀ w ∈ wsL_law0_r40, w ∈ lw_tbl := mem_r _ [845, 1817, 1818, 1819, 1820, 847, 848, 849, 850, 851, 852, 853, 854, 855, 856, 857, 1821, 1822, 1823, 1824, 1825, 1827, 35, 1828] (by decide +kernel)
theorem wl_r41 : ∀ w ∈ wsL_law0_r41, w ∈ lw_tbl := mem_r _ [1829, 1830, 1831, 1832, 859, 860, 861, 862, 863, 864, 865, 1833, 1834, 1835, 1836, 866, 867, 868, 869, 870, 871, 872, 107, 873] (by decide +kernel)
theorem wl_r42 : ∀ w ∈ wsL_law0_r42, w ∈ lw_tbl := mem_r _ [874, 875, 876, 106, 1837, 1838, 1839, 1840, 877, 878, 879, 880, 881, 882, 883, 109, 1841, 1842, 1843, 1844, 1845, 1847, 36, 1848] (by decide +kernel)
theorem wl_r43 : ∀ w ∈ wsL_law0_r43, w ∈ lw_tbl := mem_r _ [884, 885, 886, 887, 888, 889, 890, 133, 892, 893, 894, 895, 896, 897, 898, 939, 899, 900, 901, 902, 905, 1849, 1850, 1851] (by decide +kernel)
theorem wl_r44 : ∀ w ∈ wsL_law0_r44, w ∈ lw_tbl := mem_r _ [1852, 1537, 1853, 1854, 1855, 1856, 1857, 1858, 1865, 1867, 1869, 1871, 1883, 1863, 1860, 976, 977, 978, 979, 980, 981, 982, 1915, 1916] (by decide +kernel)
theorem wl_r45 : ∀ w ∈ wsL_law0_r45, w ∈ lw_tbl := mem_r _ [1917, 1918, 983, 984, 985, 986, 987, 988, 989, 655, 660, 658, 111, 948, 990, 991, 992, 564, 995, 996, 997, 998, 999, 1001] (by decide +kernel)
theorem wl_r46 : ∀ w ∈ wsL_law0_r46, w ∈ lw_tbl := mem_r _ [1002, 1003, 1004, 906, 1006, 1007, 1008, 1009, 911, 1919, 1920, 1921, 1922, 1923, 1925, 37, 1926, 1010, 1011, 1012, 1013, 1014, 1015, 1016] (by decide +kernel)
theorem wl_r47 : ∀ w ∈ wsL_law0_r47, w ∈ lw_tbl := mem_r _ [1927, 1928, 1929, 1930, 1017, 1018, 1019, 495, 1020, 1021, 1022, 1023, 1024, 1026, 11, 1027, 1028, 1029, 1030, 1031, 563, 654, 657, 1032] (by decide +kernel)
theorem wl_r48 : ∀ w ∈ wsL_law0_r48, w ∈ lw_tbl := mem_r _ [1033, 1035, 12, 1036, 1037, 1931, 1932, 1933, 1934, 1935, 1039, 1040, 1041, 1042, 1043, 1044, 1045, 1936, 1937, 1938, 1939, 1047, 1048, 1049] (by decide +kernel)
theorem wl_r49 : ∀ w ∈ wsL_law0_r49, w ∈ lw_tbl := mem_r _ [1050, 1051, 1052, 1053, 554, 937, 1940, 1941, 1942, 1943, 1056, 1057, 1058, 1059, 1060, 1061, 1062, 134, 1064, 79, 1065, 1066, 1067, 1068] (by decide +kernel)
theorem wl_r50 : ∀ w ∈ wsL_law0_r50, w ∈ lw_tbl := mem_r _ [1069, 1071, 1944, 1945, 1946, 1947, 1077, 1078, 1079, 1080, 1081, 1082, 1083, 938, 940, 1070, 941, 1115, 942, 1084, 1086, 13, 1087, 1089] (by decide +kernel)
theorem wl_r51 : ∀ w ∈ wsL_law0_r51, w ∈ lw_tbl := mem_r _ [1091, 14, 1092, 1094, 1095, 1096, 1097, 1099, 1101, 1102, 1103, 1104, 1105, 1106, 1107, 1108, 1114, 1109, 1110, 1111, 1112, 1113, 1948, 1949] (by decide +kernel)
theorem wl_r52 : ∀ w ∈ wsL_law0_r52, w ∈ lw_tbl := mem_r _ [1950, 1951, 1952, 1116, 1117, 1118, 1119, 1120, 1121, 1122, 559, 1953, 1954, 1955, 1956, 1124, 1125, 1126, 1127, 1128, 1129, 1130, 1957, 1958] (by decide +kernel)
theorem wl_r53 : ∀ w ∈ wsL_law0_r53, w ∈ lw_tbl := mem_r _ [1959, 1960, 1961, 1963, 38, 1964, 1965, 1967, 39, 1968, 1969, 1132, 1133, 1134, 1135, 1136, 1137, 1138, 1140, 1141, 1142, 1143, 1970, 1971] (by decide +kernel)
theorem wl_r54 : ∀ w ∈ wsL_law0_r54, w ∈ lw_tbl := mem_r _ [1972, 1973, 1144, 1145, 1146, 1147, 1148, 1149, 1150, 135, 1975, 1976, 1977, 1978, 1979, 1981, 40, 1982, 1983, 1984, 1985, 1986, 1987, 1988] (by decide +kernel)
theorem wl_r55 : ∀ w ∈ wsL_law0_r55, w ∈ lw_tbl := mem_r _ [1989, 1990, 1152, 1153, 1154, 1155, 1156, 1157, 1158, 1159, 1161, 15, 1162, 1163, 1165, 1167, 16, 1168, 1169, 1170, 1171, 1172, 1173, 943] (by decide +kernel)
theorem wl_r56 : ∀ w ∈ wsL_law0_r56, w ∈ lw_tbl := mem_r _ [945, 947, 1174, 1176, 17, 1177, 1991, 1992, 1993, 1994, 1995, 1997, 41, 1998, 2000, 2001, 2002, 2003, 2004, 2005, 2006, 2007, 2008, 2009] (by decide +kernel)
theorem wl_r57 : ∀ w ∈ wsL_law0_r57, w ∈ lw_tbl := mem_r _ [2010, 2011, 2012, 2013, 2014, 2015, 2016, 2017, 1179, 1180, 1181, 1182, 1183, 1184, 1185, 2018, 2019, 2020, 2021, 1186, 1187, 1188, 1189, 1190] (by decide +kernel)
theorem wl_r58 : ∀ w ∈ wsL_law0_r58, w ∈ lw_tbl := mem_r _ [1191, 1192, 2022, 2023, 2024, 2025, 1194, 1195, 1196, 1197, 1198, 1199, 1200, 2026, 2027, 2028, 2029, 166, 167, 168, 169, 170, 187, 188] (by decide +kernel)
theorem wl_r59 : ∀ w ∈ wsL_law0_r59, w ∈ lw_tbl := mem_r _ [2030, 2031, 2032, 2033, 2034, 2035, 1202, 1203, 1204, 1205, 1219, 1220, 1221, 1222, 1223, 80, 2036, 2037, 2038, 2039, 1226, 1227, 1228, 1229] (by decide +kernel)
theorem wl_r60 : ∀ w ∈ wsL_law0_r60, w ∈ lw_tbl := mem_r _ [1230, 1231, 1232, 2040, 2041, 2042, 2043, 189, 190, 191, 192, 193, 194, 195, 196, 197, 201, 205, 2044, 2045, 2046, 2047] (by decide +kernel)
theorem wl_J0 : ∀ w ∈ wsJ00, w ∈ lw_tbl := mem_r _ [382, 384] (by decide +kernel)
theorem wl_Jx00060 : ∀ w ∈ wsJx000600, w ∈ lw_tbl := mem_r _ [370, 371, 372, 373, 374, 375] (by decide +kernel)
theorem wl_Jx35411 : ∀ w ∈ wsJx354110, w ∈ lw_tbl := mem_r _ [1494, 1496, 1498, 1500] (by decide +kernel)
theorem wl_Jx4a65c : ∀ w ∈ wsJx4a65c0, w ∈ lw_tbl := mem_r _ [1266, 1262, 1264] (by decide +kernel)
theorem wl_X0 : ∀ w ∈ wsX00, w ∈ lw_tbl := mem_r _ [912, 914, 916, 918, 920, 922, 924] (by decide +kernel)
theorem wl_X1 : ∀ w ∈ wsX10, w ∈ lw_tbl := mem_r _ [739, 741, 743, 745] (by decide +kernel)
theorem wl_X2 : ∀ w ∈ wsX20, w ∈ lw_tbl := mem_r _ [1072, 1074] (by decide +kernel)
theorem wl_X3 : ∀ w ∈ wsX30, w ∈ lw_tbl := mem_r _ [352, 354, 356] (by decide +kernel)
theorem wl_X4 : ∀ w ∈ wsX40, w ∈ lw_tbl := mem_r _ [113, 115, 117, 119] (by decide +kernel)
theorem wl_X5 : ∀ w ∈ wsX50, w ∈ lw_tbl := mem_r _ [618, 620, 622, 624, 626] (by decide +kernel)
theorem wl_X6 : ∀ w ∈ wsX60, w ∈ lw_tbl := mem_r _ [663, 665, 667, 669] (by decide +kernel)
theorem wl_X7 : ∀ w ∈ wsX70, w ∈ lw_tbl := mem_r _ [571, 573, 575, 577, 579, 581, 583, 585] (by decide +kernel)
theorem wl_X8 : ∀ w ∈ wsX80, w ∈ lw_tbl := mem_r _ [949, 951, 953, 955, 957, 959, 961, 963, 965, 967, 969, 971, 973] (by decide +kernel)
theorem wl_X9 : ∀ w ∈ wsX90, w ∈ lw_tbl := mem_r _ [137, 139, 141, 143, 145, 147, 149, 151, 153, 155, 157, 159, 161, 163] (by decide +kernel)
theorem wl_X10 : ∀ w ∈ wsX100, w ∈ lw_tbl := mem_r _ [1771, 1773, 1775, 1777] (by decide +kernel)
theorem wl_X11 : ∀ w ∈ wsX110, w ∈ lw_tbl := mem_r _ [1700, 1702, 1704, 1706, 1708, 1710, 1712] (by decide +kernel)
theorem wl_X12 : ∀ w ∈ wsX120, w ∈ lw_tbl := mem_r _ [1886, 1888, 1890, 1892, 1894, 1896, 1898, 1900, 1902, 1904, 1906, 1908, 1910, 1912] (by decide +kernel)
theorem wl_X13 : ∀ w ∈ wsX130, w ∈ lw_tbl := mem_r _ [1282, 1284, 1286, 1288, 1290, 1292, 1294, 1296, 1298, 1300, 1302, 1304, 1306] (by decide +kernel)
theorem wsL_law_in0 : ∀ w ∈ wsL_law0, w ∈ lw_tbl := by
  unfold wsL_law0
  exact (List.forall_mem_append.mpr ⟨(List.forall_mem_append.mpr ⟨(List.forall_mem_append.mpr ⟨(List.forall_mem_append.mpr ⟨(List.forall_mem_append.mpr ⟨(List.forall_mem_append.mpr ⟨(List.forall_mem_append.mpr ⟨(List.forall_mem_append.mpr ⟨(List.forall_mem_append.mpr ⟨(List.forall_mem_append.mpr ⟨(List.forall_mem_append.mpr ⟨(List.forall_mem_append.mpr ⟨(List.forall_mem_append.mpr ⟨(List.forall_mem_append.mpr ⟨(List.forall_mem_append.mpr ⟨(List.forall_mem_append.mpr ⟨(List.forall_mem_append.mpr ⟨(List.forall_mem_append.mpr ⟨(List.forall_mem_append.mpr ⟨wl_r1, (List.forall_mem_append.mpr ⟨wl_r2, (List.forall_mem_append.mpr ⟨wl_r3, (List.forall_mem_append.mpr ⟨wl_r4, (List.forall_mem_append.mpr ⟨wl_r5, (List.forall_mem_append.mpr ⟨wl_r6, (List.forall_mem_append.mpr ⟨wl_r7, (List.forall_mem_append.mpr ⟨wl_r8, (List.forall_mem_append.mpr ⟨wl_r9, (List.forall_mem_append.mpr ⟨wl_r10, (List.forall_mem_append.mpr ⟨wl_r11, (List.forall_mem_append.mpr ⟨wl_r12, (List.forall_mem_append.mpr ⟨wl_r13, (List.forall_mem_append.mpr ⟨wl_r14, (List.forall_mem_append.mpr ⟨wl_r15, (List.forall_mem_append.mpr ⟨wl_r16, (List.forall_mem_append.mpr ⟨wl_r17, (List.forall_mem_append.mpr ⟨wl_r18, (List.forall_mem_append.mpr ⟨wl_r19, (List.forall_mem_append.mpr ⟨wl_r20, (List.forall_mem_append.mpr ⟨wl_r21, (List.forall_mem_append.mpr ⟨wl_r22, (List.forall_mem_append.mpr ⟨wl_r23, (List.forall_mem_append.mpr ⟨wl_r24, (List.forall_mem_append.mpr ⟨wl_r25, (List.forall_mem_append.mpr ⟨wl_r26, (List.forall_mem_append.mpr ⟨wl_r27, (List.forall_mem_append.mpr ⟨wl_r28, (List.forall_mem_append.mpr ⟨wl_r29, (List.forall_mem_append.mpr ⟨wl_r30, (List.forall_mem_append.mpr ⟨wl_r31, (List.forall_mem_append.mpr ⟨wl_r32, (List.forall_mem_append.mpr ⟨wl_r33, (List.forall_mem_append.mpr ⟨wl_r34, (List.forall_mem_append.mpr ⟨wl_r35, (List.forall_mem_append.mpr ⟨wl_r36, (List.forall_mem_append.mpr ⟨wl_r37, (List.forall_mem_append.mpr ⟨wl_r38, (List.forall_mem_append.mpr ⟨wl_r39, (List.forall_mem_append.mpr ⟨wl_r40, (List.forall_mem_append.mpr ⟨wl_r41, (List.forall_mem_append.mpr ⟨wl_r42, (List.forall_mem_append.mpr ⟨wl_r43, (List.forall_mem_append.mpr ⟨wl_r44, (List.forall_mem_append.mpr ⟨wl_r45, (List.forall_mem_append.mpr ⟨wl_r46, (List.forall_mem_append.mpr ⟨wl_r47, (List.forall_mem_append.mpr ⟨wl_r48, (List.forall_mem_append.mpr ⟨wl_r49, (List.forall_mem_append.mpr ⟨wl_r50, (List.forall_mem_append.mpr ⟨wl_r51, (List.forall_mem_append.mpr ⟨wl_r52, (List.forall_mem_append.mpr ⟨wl_r53, (List.forall_mem_append.mpr ⟨wl_r54, (List.forall_mem_append.mpr ⟨wl_r55, (List.forall_mem_append.mpr ⟨wl_r56, (List.forall_mem_append.mpr ⟨wl_r57, (List.forall_mem_append.mpr ⟨wl_r58, (List.forall_mem_append.mpr ⟨wl_r59, wl_r60⟩)⟩)⟩)⟩)⟩)⟩)⟩)⟩)⟩)⟩)⟩)⟩)⟩)⟩)⟩)⟩)⟩)⟩)⟩)⟩)⟩)⟩)⟩)⟩)⟩)⟩)⟩)⟩)⟩)⟩)⟩)⟩)⟩)⟩)⟩)⟩)⟩)⟩)⟩)⟩)⟩)⟩)⟩)⟩)⟩)⟩)⟩)⟩)⟩)⟩)⟩)⟩)⟩)⟩)⟩)⟩)⟩)⟩)⟩), wl_X9⟩), wl_X13⟩), wl_X4⟩), wl_Jx4a65c⟩), wl_X3⟩), wl_X8⟩), wl_X7⟩), wl_X12⟩), wl_X11⟩), wl_Jx35411⟩), wl_J0⟩), wl_X0⟩), wl_X5⟩), wl_X6⟩), wl_X1⟩), wl_X10⟩), wl_X2⟩), (fun _ h => absurd h List.not_mem_nil)⟩)
theorem wsL_law_in : ∀ w ∈ wsL_law, w ∈ lw_tbl := fun w h => (List.mem_append.mp h).elim (fun h => (List.mem_append.mp h).elim (fun h => (List.mem_append.mp h).elim (fun h => (List.mem_append.mp h).elim (fun h => (List.mem_append.mp h).elim (fun h => (List.mem_append.mp h).elim (fun h => (List.mem_append.mp h).elim (fun h => (List.mem_append.mp h).elim (fun h => wsL_law_in0 w h) (fun h => wsL_law_x0 w h)) (fun h => wsL_law_x1 w h)) (fun h => wsL_law_x2 w h)) (fun h => wsL_law_x3 w h)) (fun h => wsL_law_x4 w h)) (fun h => wsL_law_x5 w h)) (fun h => wsL_law_x6 w h)) (fun h => wsL_law_x7 w h)
theorem inX0 : ∀ w ∈ wsX00, w ∈ lw_tbl := fun w h => wsL_law_in w (inlX0 w h)
theorem inX1 : ∀ w ∈ wsX10, w ∈ lw_tbl := fun w h => wsL_law_in w (inlX1 w h)
theorem inX2 : ∀ w ∈ wsX20, w ∈ lw_tbl := fun w h => wsL_law_in w (inlX2 w h)
theorem inX3 : ∀ w ∈ wsX30, w ∈ lw_tbl := fun w h => wsL_law_in w (inlX3 w h)
theorem inX4 : ∀ w ∈ wsX40, w ∈ lw_tbl := fun w h => wsL_law_in w (inlX4 w h)
theorem inX5 : ∀ w ∈ wsX50, w ∈ lw_tbl := fun w h => wsL_law_in w (inlX5 w h)
theorem inX6 : ∀ w ∈ wsX60, w ∈ lw_tbl := fun w h => wsL_law_in w (inlX6 w h)
theorem inX7 : ∀ w ∈ wsX70, w ∈ lw_tbl := fun w h => wsL_law_in w (inlX7 w h)
theorem inX8 : ∀ w ∈ wsX80, w ∈ lw_tbl := fun w h => wsL_law_in w (inlX8 w h)
theorem inX9 : ∀ w ∈ wsX90, w ∈ lw_tbl := fun w h => wsL_law_in w (inlX9 w h)
theorem inX10 : ∀ w ∈ wsX100, w ∈ lw_tbl := fun w h => wsL_law_in w (inlX10 w h)
theorem inX11 : ∀ w ∈ wsX110, w ∈ lw_tbl := fun w h => wsL_law_in w (inlX11 w h)
theorem inX12 : ∀ w ∈ wsX120, w ∈ lw_tbl := fun w h => wsL_law_in w (inlX12 w h)
theorem inX13 : ∀ w ∈ wsX130, w ∈ lw_tbl := fun w h => wsL_law_in w (inlX13 w h)
theorem inJ0 : ∀ w ∈ wsJ00, w ∈ lw_tbl := fun w h => wsL_law_in w (inlJ0 w h)
theorem inJx35411 : ∀ w ∈ wsJx354110, w ∈ lw_tbl := fun w h => wsL_law_in w (inlJx35411 w h)
theorem inJx4a65c : ∀ w ∈ wsJx4a65c0, w ∈ lw_tbl := fun w h => wsL_law_in w (inlJx4a65c w h)
set_option maxRecDepth 100000 in
theorem k_start {s : State} {b : Nat} (hts : ∀ w ∈ lw_tbl, w.before #[Value.ref b] s = true) : ∃ D : va_G, va_K D vwCl [] s := by
  obtain ⟨c0, i0, hk0⟩ := u_known (C := RJ0) (T := TJ0) (N := 2) (n := 4) hts inJ0 (hts (.instantiable RJ0 4) (by decide +kernel))
  obtain ⟨c1, i1, hk1⟩ := u_known (C := RJx00060) (T := TJx00060) (N := 6) (n := 6) hts inJx00060 (hts (.instantiable RJx00060 6) (by decide +kernel))
  obtain ⟨c2, i2, hk2⟩ := u_known (C := RJx35411) (T := TJx35411) (N := 4) (n := 4) hts inJx35411 (hts (.instantiable RJx35411 4) (by decide +kernel))
  obtain ⟨c3, i3, hk3⟩ := u_known (C := RJx4a65c) (T := TJx4a65c) (N := 3) (n := 3) hts inJx4a65c (hts (.instantiable RJx4a65c 3) (by decide +kernel))
  obtain ⟨c4, i4, hk4⟩ := u_known (C := RX0) (T := TX0) (N := 7) (n := 7) hts inX0 (hts (.instantiable RX0 7) (by decide +kernel))
  obtain ⟨c5, i5, hk5⟩ := u_known (C := RX1) (T := TX1) (N := 4) (n := 4) hts inX1 (hts (.instantiable RX1 4) (by decide +kernel))
  obtain ⟨c6, i6, hk6⟩ := u_known (C := RX2) (T := TX2) (N := 2) (n := 2) hts inX2 (hts (.instantiable RX2 2) (by decide +kernel))
  obtain ⟨c7, i7, hk7⟩ := u_known (C := RX3) (T := TX3) (N := 3) (n := 3) hts inX3 (hts (.instantiable RX3 3) (by decide +kernel))
  obtain ⟨c8, i8, hk8⟩ := u_known (C := RX4) (T := TX4) (N := 4) (n := 4) hts inX4 (hts (.instantiable RX4 4) (by decide +kernel))
  obtain ⟨c9, i9, hk9⟩ := u_known (C := RX5) (T := TX5) (N := 5) (n := 5) hts inX5 (hts (.instantiable RX5 5) (by decide +kernel))
  obtain ⟨c10, i10, hk10⟩ := u_known (C := RX6) (T := TX6) (N := 4) (n := 4) hts inX6 (hts (.instantiable RX6 4) (by decide +kernel))
  obtain ⟨c11, i11, hk11⟩ := u_known (C := RX7) (T := TX7) (N := 8) (n := 8) hts inX7 (hts (.instantiable RX7 8) (by decide +kernel))
  obtain ⟨c12, i12, hk12⟩ := u_known (C := RX8) (T := TX8) (N := 13) (n := 13) hts inX8 (hts (.instantiable RX8 13) (by decide +kernel))
  obtain ⟨c13, i13, hk13⟩ := u_known (C := RX9) (T := TX9) (N := 14) (n := 14) hts inX9 (hts (.instantiable RX9 14) (by decide +kernel))
  obtain ⟨c14, i14, hk14⟩ := u_known (C := RX10) (T := TX10) (N := 4) (n := 4) hts inX10 (hts (.instantiable RX10 4) (by decide +kernel))
  obtain ⟨c15, i15, hk15⟩ := u_known (C := RX11) (T := TX11) (N := 7) (n := 7) hts inX11 (hts (.instantiable RX11 7) (by decide +kernel))
  obtain ⟨c16, i16, hk16⟩ := u_known (C := RX12) (T := TX12) (N := 14) (n := 14) hts inX12 (hts (.instantiable RX12 14) (by decide +kernel))
  obtain ⟨c17, i17, hk17⟩ := u_known (C := RX13) (T := TX13) (N := 13) (n := 13) hts inX13 (hts (.instantiable RX13 13) (by decide +kernel))
  refine ⟨(fun k => [c0, c1, c2, c3, c4, c5, c6, c7, c8, c9, c10, c11, c12, c13, c14, c15, c16, c17].getD k c0, fun k => [i0, i1, i2, i3, i4, i5, i6, i7, i8, i9, i10, i11, i12, i13, i14, i15, i16, i17].getD k i0), fun k q hq => ?_, fun k q h => by simp at h⟩
  match k, hq with
  | 0, hq => cases hq; exact hk0
  | 1, hq => cases hq; exact hk1
  | 2, hq => cases hq; exact hk2
  | 3, hq => cases hq; exact hk3
  | 4, hq => cases hq; exact hk4
  | 5, hq => cases hq; exact hk5
  | 6, hq => cases hq; exact hk6
  | 7, hq => cases hq; exact hk7
  | 8, hq => cases hq; exact hk8
  | 9, hq => cases hq; exact hk9
  | 10, hq => cases hq; exact hk10
  | 11, hq => cases hq; exact hk11
  | 12, hq => cases hq; exact hk12
  | 13, hq => cases hq; exact hk13
  | 14, hq => cases hq; exact hk14
  | 15, hq => cases hq; exact hk15
  | 16, hq => cases hq; exact hk16
  | 17, hq => cases hq; exact hk17
  | k + 18, hq => simp [vwCl] at hq
