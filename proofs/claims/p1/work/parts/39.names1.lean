theorem ct_at {big : List Cond} (ws : List Cond) (ps : List Nat) (hp : ws = ps.filterMap (fun i => big[i]?)) : ∀ w ∈ ws, w ∈ big := by
  intro w hw
  rw [hp] at hw
  obtain ⟨i, -, hi⟩ := List.mem_filterMap.mp hw
  exact List.mem_of_getElem? hi
set_option maxRecDepth 20000 in
theorem wl_wsL_law_r1 : ∀ w ∈ wsL_law_r1, w ∈ lw_tbl := ct_at _ [124, 125, 103, 1355, 1356, 115, 2087, 126, 127, 128, 129, 130, 131, 132, 133, 104, 470, 169, 471, 184, 185, 106, 472, 473] (by decide +kernel)
set_option maxRecDepth 20000 in
theorem wl_wsL_law_r2 : ∀ w ∈ wsL_law_r2, w ∈ lw_tbl := ct_at _ [474, 293, 475, 295, 296, 107, 476, 477, 478, 322, 323, 108, 479, 332, 333, 109, 480, 377, 378, 110, 481, 395, 396, 111] (by decide +kernel)
set_option maxRecDepth 20000 in
theorem wl_wsL_law_r3 : ∀ w ∈ wsL_law_r3, w ∈ lw_tbl := ct_at _ [482, 409, 410, 112, 483, 419, 420, 113, 484, 451, 452, 114, 485, 135, 136, 137, 138, 139, 105, 168, 173, 141, 142, 143] (by decide +kernel)
set_option maxRecDepth 20000 in
theorem wl_wsL_law_r4 : ∀ w ∈ wsL_law_r4, w ∈ lw_tbl := ct_at _ [167, 144, 187, 188, 189, 208, 212, 219, 226, 231, 238, 243, 249, 255, 298, 299, 300, 301, 302, 303, 325, 326, 327, 328] (by decide +kernel)
set_option maxRecDepth 20000 in
theorem wl_wsL_law_r5 : ∀ w ∈ wsL_law_r5, w ∈ lw_tbl := ct_at _ [335, 336, 337, 340, 343, 344, 345, 346, 347, 380, 381, 382, 383, 398, 399, 400, 412, 413, 414, 415, 422, 423, 424, 425] (by decide +kernel)
set_option maxRecDepth 20000 in
theorem wl_wsL_law_r6 : ∀ w ∈ wsL_law_r6, w ∈ lw_tbl := ct_at _ [426, 454, 455, 456, 457, 459, 469, 461, 1357, 1358, 1359, 1360, 1362, 1363, 1364, 1365, 1366, 1376, 1377, 1378, 1379, 1380, 1381, 1497] (by decide +kernel)
set_option maxRecDepth 20000 in
theorem wl_wsL_law_r7 : ∀ w ∈ wsL_law_r7, w ∈ lw_tbl := ct_at _ [1382, 1383, 1384, 1385, 1386, 1387, 1388, 1389, 1392, 1397, 1400, 519, 520, 521, 522, 145, 523, 524, 525, 526, 146, 1520, 1521, 1522] (by decide +kernel)
set_option maxRecDepth 20000 in
theorem wl_wsL_law_r8 : ∀ w ∈ wsL_law_r8, w ∈ lw_tbl := ct_at _ [1523, 1361, 1367, 1524, 1526, 35, 1527, 527, 528, 529, 530, 1528, 1529, 1530, 1531, 1506, 1507, 1508, 531, 532, 533, 534, 207, 535] (by decide +kernel)
set_option maxRecDepth 20000 in
theorem wl_wsL_law_r9 : ∀ w ∈ wsL_law_r9, w ∈ lw_tbl := ct_at _ [536, 537, 538, 171, 147, 206, 539, 540, 541, 542, 190, 197, 201, 205, 234, 246, 252, 256, 543, 544, 116, 545, 546, 547] (by decide +kernel)
set_option maxRecDepth 20000 in
theorem wl_wsL_law_r10 : ∀ w ∈ wsL_law_r10, w ∈ lw_tbl := ct_at _ [548, 549, 151, 550, 551, 552, 553, 150, 152, 148, 557, 558, 117, 559, 554, 555, 556, 560, 562, 0, 563, 149, 565, 566] (by decide +kernel)
set_option maxRecDepth 20000 in
theorem wl_wsL_law_r11 : ∀ w ∈ wsL_law_r11, w ∈ lw_tbl := ct_at _ [567, 568, 569, 570, 571, 118, 572, 2088, 573, 574, 575, 576, 577, 2089, 579, 580, 581, 582, 583, 584, 585, 586, 587, 588] (by decide +kernel)
set_option maxRecDepth 20000 in
theorem wl_wsL_law_r12 : ∀ w ∈ wsL_law_r12, w ∈ lw_tbl := ct_at _ [119, 589, 590, 591, 592, 593, 595, 596, 120, 597, 598, 599, 121, 600, 601, 602, 603, 604, 605, 606, 607, 608, 609, 610] (by decide +kernel)
set_option maxRecDepth 20000 in
theorem wl_wsL_law_r13 : ∀ w ∈ wsL_law_r13, w ∈ lw_tbl := ct_at _ [611, 613, 615, 617, 619, 1, 620, 621, 623, 2, 624, 194, 198, 203, 625, 627, 629, 3, 630, 631, 633, 4, 634, 153] (by decide +kernel)
set_option maxRecDepth 20000 in
theorem wl_wsL_law_r14 : ∀ w ∈ wsL_law_r14, w ∈ lw_tbl := ct_at _ [170, 638, 640, 5, 641, 210, 223, 217, 643, 645, 6, 646, 649, 651, 7, 652, 228, 654, 656, 8, 657, 236, 658, 660] (by decide +kernel)
set_option maxRecDepth 20000 in
theorem wl_wsL_law_r15 : ∀ w ∈ wsL_law_r15, w ∈ lw_tbl := ct_at _ [9, 661, 663, 664, 665, 666, 669, 670, 671, 672, 674, 676, 10, 677, 241, 679, 681, 11, 682, 247, 684, 685, 686, 687] (by decide +kernel)
set_option maxRecDepth 20000 in
theorem wl_wsL_law_r16 : ∀ w ∈ wsL_law_r16, w ∈ lw_tbl := ct_at _ [689, 691, 12, 692, 253, 693, 694, 695, 696, 697, 699, 13, 700, 1536, 1537, 1538, 1539, 1369, 1569, 1586, 1595, 1596, 1373, 1540] (by decide +kernel)
set_option maxRecDepth 20000 in
theorem wl_wsL_law_r17 : ∀ w ∈ wsL_law_r17, w ∈ lw_tbl := ct_at _ [1542, 36, 1543, 1544, 1546, 37, 1547, 1548, 1550, 38, 1551, 1374, 1368, 1552, 1554, 39, 1555, 1370, 1371, 1372, 1560, 1561, 1562, 1563] (by decide +kernel)
set_option maxRecDepth 20000 in
theorem wl_wsL_law_r18 : ∀ w ∈ wsL_law_r18, w ∈ lw_tbl := ct_at _ [1564, 1556, 1558, 40, 1559, 1565, 1567, 41, 1568, 1570, 1572, 42, 1573, 1574, 1576, 43, 1577, 1578, 1580, 44, 1581, 1582, 1584, 45] (by decide +kernel)
set_option maxRecDepth 20000 in
theorem wl_wsL_law_r19 : ∀ w ∈ wsL_law_r19, w ∈ lw_tbl := ct_at _ [1585, 1587, 1589, 46, 1590, 1591, 1593, 47, 1594, 1597, 1599, 48, 1600, 1601, 1602, 1603, 1623, 1628, 1639, 1644, 1604, 1606, 49, 1607] (by decide +kernel)
set_option maxRecDepth 20000 in
theorem wl_wsL_law_r20 : ∀ w ∈ wsL_law_r20, w ∈ lw_tbl := ct_at _ [1608, 1610, 50, 1611, 1612, 1621, 1622, 1613, 1615, 51, 1616, 1617, 1619, 52, 1620, 1624, 1626, 53, 1627, 1629, 1631, 54, 1632, 1633] (by decide +kernel)
set_option maxRecDepth 20000 in
theorem wl_wsL_law_r21 : ∀ w ∈ wsL_law_r21, w ∈ lw_tbl := ct_at _ [1638, 1634, 1636, 55, 1637, 1640, 1642, 56, 1643, 1645, 1647, 57, 1648, 1649, 1651, 58, 1652, 1375, 1653, 1655, 59, 1656, 1657, 1658] (by decide +kernel)
set_option maxRecDepth 20000 in
theorem wl_wsL_law_r22 : ∀ w ∈ wsL_law_r22, w ∈ lw_tbl := ct_at _ [1659, 701, 702, 703, 704, 172, 174, 1532, 1533, 1534, 1535, 705, 706, 707, 708, 709, 710, 711, 712, 713, 714, 715, 716, 717] (by decide +kernel)
set_option maxRecDepth 20000 in
theorem wl_wsL_law_r23 : ∀ w ∈ wsL_law_r23, w ∈ lw_tbl := ct_at _ [718, 719, 720, 721, 722, 724, 725, 726, 727, 1660, 1661, 1662, 1663, 1664, 1666, 60, 1667, 1668, 1670, 61, 1671, 1672, 1674, 62] (by decide +kernel)
set_option maxRecDepth 20000 in
theorem wl_wsL_law_r24 : ∀ w ∈ wsL_law_r24, w ∈ lw_tbl := ct_at _ [1675, 728, 729, 730, 731, 230, 732, 733, 734, 1676, 1677, 1678, 1679, 1680, 1681, 1682, 1683, 735, 736, 737, 738, 233, 739, 740] (by decide +kernel)
set_option maxRecDepth 20000 in
theorem wl_wsL_law_r25 : ∀ w ∈ wsL_law_r25, w ∈ lw_tbl := ct_at _ [741, 742, 1684, 1685, 1686, 1687, 1505, 743, 744, 745, 746, 242, 747, 748, 749, 1688, 1689, 1690, 1691, 1692, 1693, 1694, 1695, 750] (by decide +kernel)
set_option maxRecDepth 20000 in
theorem wl_wsL_law_r26 : ∀ w ∈ wsL_law_r26, w ∈ lw_tbl := ct_at _ [751, 752, 753, 754, 756, 14, 757, 758, 760, 15, 761, 762, 763, 764, 765, 191, 304, 766, 768, 16, 769, 235, 232, 770] (by decide +kernel)
set_option maxRecDepth 20000 in
theorem wl_wsL_law_r27 : ∀ w ∈ wsL_law_r27, w ∈ lw_tbl := ct_at _ [771, 773, 17, 774, 216, 222, 240, 775, 777, 778, 779, 780, 117, 781, 782, 783, 784, 785, 1696, 1697, 1698, 1699, 1700, 1702] (by decide +kernel)
set_option maxRecDepth 20000 in
theorem wl_wsL_law_r28 : ∀ w ∈ wsL_law_r28, w ∈ lw_tbl := ct_at _ [63, 1703, 1704, 1706, 64, 1707, 1708, 1710, 65, 1711, 786, 787, 788, 789, 790, 791, 792, 793, 1712, 1713, 1714, 1715, 794, 795] (by decide +kernel)
set_option maxRecDepth 20000 in
theorem wl_wsL_law_r29 : ∀ w ∈ wsL_law_r29, w ∈ lw_tbl := ct_at _ [796, 797, 798, 799, 800, 801, 802, 1716, 1717, 1718, 1719, 1720, 1722, 66, 1723, 803, 804, 805, 806, 218, 225, 807, 1724, 1725] (by decide +kernel)
set_option maxRecDepth 20000 in
theorem wl_wsL_law_r30 : ∀ w ∈ wsL_law_r30, w ∈ lw_tbl := ct_at _ [1726, 1727, 808, 809, 810, 811, 812, 813, 814, 815, 816, 817, 818, 819, 820, 821, 822, 823, 824, 1728, 1729, 1730, 1731, 1732] (by decide +kernel)
set_option maxRecDepth 20000 in
theorem wl_wsL_law_r31 : ∀ w ∈ wsL_law_r31, w ∈ lw_tbl := ct_at _ [1734, 67, 1735, 1736, 1738, 68, 1739, 1740, 1741, 1742, 825, 826, 827, 828, 1743, 1744, 1745, 1746, 829, 830, 831, 832, 833, 835] (by decide +kernel)
set_option maxRecDepth 20000 in
theorem wl_wsL_law_r32 : ∀ w ∈ wsL_law_r32, w ∈ lw_tbl := ct_at _ [18, 836, 837, 838, 839, 840, 841, 1747, 1748, 1749, 1750, 1751, 1753, 69, 1754, 1755, 1757, 70, 1758, 842, 843, 844, 845, 306] (by decide +kernel)
set_option maxRecDepth 20000 in
theorem wl_wsL_law_r33 : ∀ w ∈ wsL_law_r33, w ∈ lw_tbl := ct_at _ [846, 847, 848, 849, 305, 307, 1759, 1760, 1761, 1762, 1390, 1763, 1765, 71, 1766, 1391, 850, 851, 852, 853, 308, 1767, 1768, 1769] (by decide +kernel)
set_option maxRecDepth 20000 in
theorem wl_wsL_law_r34 : ∀ w ∈ wsL_law_r34, w ∈ lw_tbl := ct_at _ [1770, 854, 855, 856, 857, 858, 859, 860, 861, 862, 1771, 1772, 1773, 1774, 1775, 1777, 72, 1778, 863, 864, 865, 866, 237, 1779] (by decide +kernel)
set_option maxRecDepth 20000 in
theorem wl_wsL_law_r35 : ∀ w ∈ wsL_law_r35, w ∈ lw_tbl := ct_at _ [1780, 1781, 1782, 867, 868, 869, 870, 871, 872, 873, 874, 875, 876, 877, 213, 879, 880, 881, 882, 883, 1783, 1784, 1785, 1786] (by decide +kernel)
set_option maxRecDepth 20000 in
theorem wl_wsL_law_r36 : ∀ w ∈ wsL_law_r36, w ∈ lw_tbl := ct_at _ [1787, 1789, 73, 1790, 1791, 1793, 74, 1794, 1795, 1796, 1797, 884, 885, 886, 887, 888, 889, 890, 891, 892, 893, 894, 224, 1798] (by decide +kernel)
set_option maxRecDepth 20000 in
theorem wl_wsL_law_r37 : ∀ w ∈ wsL_law_r37, w ∈ lw_tbl := ct_at _ [1799, 1800, 1801, 896, 897, 898, 899, 900, 902, 19, 903, 904, 905, 906, 193, 907, 908, 909, 910, 911, 1802, 1803, 1804, 1805] (by decide +kernel)
set_option maxRecDepth 20000 in
theorem wl_wsL_law_r38 : ∀ w ∈ wsL_law_r38, w ∈ lw_tbl := ct_at _ [1806, 1808, 75, 1809, 1810, 1812, 76, 1813, 912, 913, 914, 915, 916, 917, 918, 919, 1814, 1815, 1816, 1817, 920, 921, 922, 923] (by decide +kernel)
set_option maxRecDepth 20000 in
theorem wl_wsL_law_r39 : ∀ w ∈ wsL_law_r39, w ∈ lw_tbl := ct_at _ [1818, 1819, 1820, 1821, 924, 925, 926, 927, 928, 929, 930, 931, 229, 932, 933, 934, 935, 936, 937, 938, 939, 940, 941, 942] (by decide +kernel)
set_option maxRecDepth 20000 in
theorem wl_wsL_law_r40 : ∀ w ∈ wsL_law_r40, w ∈ lw_tbl := ct_at _ [943, 944, 945, 946, 947, 948, 949, 950, 122, 951, 952, 1822, 1823, 1824, 1825, 1826, 1828, 77, 1829, 1830, 1832, 78, 1833, 1834] (by decide +kernel)
set_option maxRecDepth 20000 in
theorem wl_wsL_law_r41 : ∀ w ∈ wsL_law_r41, w ∈ lw_tbl := ct_at _ [1836, 79, 1837, 953, 954, 955, 956, 957, 1838, 1839, 1840, 1841, 958, 959, 960, 961, 1842, 1843, 1844, 1845, 962, 963, 964, 965] (by decide +kernel)
set_option maxRecDepth 20000 in
theorem wl_wsL_law_r42 : ∀ w ∈ wsL_law_r42, w ∈ lw_tbl := ct_at _ [966, 968, 20, 969, 460, 970, 971, 972, 973, 986, 974, 975, 976, 978, 979, 980, 981, 982, 983, 984, 985, 987, 988, 989] (by decide +kernel)
set_option maxRecDepth 20000 in
theorem wl_wsL_law_r43 : ∀ w ∈ wsL_law_r43, w ∈ lw_tbl := ct_at _ [990, 991, 992, 993, 994, 995, 996, 997, 998, 192, 338, 214, 339, 209, 999, 1001, 1000, 123, 341, 342, 221, 239, 1002, 1004] (by decide +kernel)
set_option maxRecDepth 20000 in
theorem wl_wsL_law_r44 : ∀ w ∈ wsL_law_r44, w ∈ lw_tbl := ct_at _ [1005, 1006, 1007, 1008, 1013, 1014, 1015, 1016, 1009, 1011, 21, 1012, 1017, 1018, 1019, 1020, 1021, 1023, 22, 1024, 1025, 1027, 23, 1028] (by decide +kernel)
set_option maxRecDepth 20000 in
theorem wl_wsL_law_r45 : ∀ w ∈ wsL_law_r45, w ∈ lw_tbl := ct_at _ [1029, 1030, 1031, 1032, 1033, 1034, 1846, 1847, 1848, 1849, 1393, 1850, 1852, 80, 1853, 1502, 1503, 1504, 1854, 1856, 81, 1857, 1394, 1395] (by decide +kernel)
set_option maxRecDepth 20000 in
theorem wl_wsL_law_r46 : ∀ w ∈ wsL_law_r46, w ∈ lw_tbl := ct_at _ [1858, 1860, 82, 1861, 1035, 1036, 1037, 1038, 1039, 1040, 1041, 1042, 1862, 1863, 1864, 1865, 1043, 1044, 1045, 1046, 1047, 1048, 1049, 1050] (by decide +kernel)
set_option maxRecDepth 20000 in
theorem wl_wsL_law_r47 : ∀ w ∈ wsL_law_r47, w ∈ lw_tbl := ct_at _ [1866, 1867, 1868, 1869, 1051, 1052, 1053, 1054, 349, 1055, 1056, 1057, 1058, 348, 350, 1059, 1060, 1062, 24, 1063, 1064, 1066, 25, 1067] (by decide +kernel)
set_option maxRecDepth 20000 in
theorem wl_wsL_law_r48 : ∀ w ∈ wsL_law_r48, w ∈ lw_tbl := ct_at _ [1870, 1871, 1872, 1873, 1874, 1876, 83, 1877, 1396, 1068, 1069, 1070, 1071, 351, 1878, 1879, 1880, 1881, 1072, 1073, 1074, 1075, 1076, 1077] (by decide +kernel)
set_option maxRecDepth 20000 in
theorem wl_wsL_law_r49 : ∀ w ∈ wsL_law_r49, w ∈ lw_tbl := ct_at _ [1078, 1079, 245, 244, 1882, 1883, 1884, 1885, 1886, 1888, 84, 1889, 1890, 1891, 1892, 1081, 1082, 1083, 1084, 1893, 1894, 1895, 1896, 1085] (by decide +kernel)
set_option maxRecDepth 20000 in
theorem wl_wsL_law_r50 : ∀ w ∈ wsL_law_r50, w ∈ lw_tbl := ct_at _ [1086, 1087, 1088, 385, 1089, 1090, 1091, 1092, 384, 386, 1094, 1093, 1897, 1898, 1899, 1900, 1398, 1901, 1903, 85, 1904, 1399, 1095, 1096] (by decide +kernel)
set_option maxRecDepth 20000 in
theorem wl_wsL_law_r51 : ∀ w ∈ wsL_law_r51, w ∈ lw_tbl := ct_at _ [1097, 1098, 387, 1905, 1906, 1907, 1908, 1099, 1100, 1101, 1102, 1103, 1104, 1105, 1106, 1909, 1910, 1911, 1912, 1107, 1108, 1109, 1110, 1111] (by decide +kernel)
set_option maxRecDepth 20000 in
theorem wl_wsL_law_r52 : ∀ w ∈ wsL_law_r52, w ∈ lw_tbl := ct_at _ [1112, 1113, 1114, 1115, 1116, 1117, 1118, 1119, 1121, 26, 1122, 1124, 1125, 1126, 1127, 1913, 1914, 1915, 1916, 1917, 1919, 86, 1920, 1921] (by decide +kernel)
set_option maxRecDepth 20000 in
theorem wl_wsL_law_r53 : ∀ w ∈ wsL_law_r53, w ∈ lw_tbl := ct_at _ [1923, 87, 1924, 1925, 1927, 88, 1928, 1128, 1129, 1130, 1131, 1132, 1929, 1930, 1931, 1932, 1133, 1134, 1135, 1136, 1137, 1138, 1139, 1140] (by decide +kernel)
set_option maxRecDepth 20000 in
theorem wl_wsL_law_r54 : ∀ w ∈ wsL_law_r54, w ∈ lw_tbl := ct_at _ [1933, 1934, 1935, 1936, 1141, 1142, 1143, 1144, 1149, 1145, 1147, 27, 1148, 254, 1150, 1151, 1152, 1153, 401, 403, 251, 250, 1154, 1156] (by decide +kernel)
set_option maxRecDepth 20000 in
theorem wl_wsL_law_r55 : ∀ w ∈ wsL_law_r55, w ∈ lw_tbl := ct_at _ [28, 1157, 1158, 1160, 1161, 1162, 1163, 1164, 1165, 1166, 1937, 1938, 1939, 1940, 1952, 1941, 1943, 89, 1944, 1945, 1947, 90, 1948, 1949] (by decide +kernel)
set_option maxRecDepth 20000 in
theorem wl_wsL_law_r56 : ∀ w ∈ wsL_law_r56, w ∈ lw_tbl := ct_at _ [1950, 1951, 1167, 1168, 1169, 1170, 402, 1953, 1954, 1955, 1956, 1957, 1959, 91, 1960, 1171, 1172, 1173, 1174, 1175, 1176, 1177, 1178, 1179] (by decide +kernel)
set_option maxRecDepth 20000 in
theorem wl_wsL_law_r57 : ∀ w ∈ wsL_law_r57, w ∈ lw_tbl := ct_at _ [1180, 1181, 1961, 1962, 1963, 1964, 1965, 1967, 92, 1968, 1969, 1970, 1971, 1182, 1183, 1184, 1185, 1972, 1973, 1974, 1975, 1186, 1187, 1188] (by decide +kernel)
set_option maxRecDepth 20000 in
theorem wl_wsL_law_r58 : ∀ w ∈ wsL_law_r58, w ∈ lw_tbl := ct_at _ [1189, 1190, 1976, 1977, 1978, 1979, 1191, 1192, 1193, 1194, 1980, 1981, 1982, 1983, 1195, 1196, 1197, 1198, 1199, 1200, 1201, 1202, 1207, 227] (by decide +kernel)
set_option maxRecDepth 20000 in
theorem wl_wsL_law_r59 : ∀ w ∈ wsL_law_r59, w ∈ lw_tbl := ct_at _ [1203, 1205, 29, 1206, 1209, 1984, 1985, 1986, 1987, 1988, 1990, 93, 1991, 1992, 1994, 94, 1995, 1996, 1998, 95, 1999, 1210, 1211, 1212] (by decide +kernel)
set_option maxRecDepth 20000 in
theorem wl_wsL_law_r60 : ∀ w ∈ wsL_law_r60, w ∈ lw_tbl := ct_at _ [1213, 2000, 2001, 2002, 2003, 1214, 1215, 1216, 1217, 1218, 1219, 1220, 1221, 204, 1222, 1223, 1224, 1225, 1226, 1227, 2004, 2005, 2006, 2007] (by decide +kernel)
set_option maxRecDepth 20000 in
theorem wl_wsL_law_r61 : ∀ w ∈ wsL_law_r61, w ∈ lw_tbl := ct_at _ [2013, 2008, 2010, 96, 2011, 2012, 2014, 2015, 2016, 2017, 2018, 2019, 1228, 2020, 2021, 2022, 2023, 1229, 1230, 1231, 1232, 429, 431, 433] (by decide +kernel)
set_option maxRecDepth 20000 in
theorem wl_wsL_law_r62 : ∀ w ∈ wsL_law_r62, w ∈ lw_tbl := ct_at _ [435, 1233, 1235, 30, 1236, 1237, 1238, 1239, 1240, 1241, 427, 428, 430, 432, 434, 220, 1242, 1244, 31, 1245, 202, 215, 1246, 1248] (by decide +kernel)
set_option maxRecDepth 20000 in
theorem wl_wsL_law_r63 : ∀ w ∈ wsL_law_r63, w ∈ lw_tbl := ct_at _ [32, 1249, 1250, 1251, 1252, 1253, 1254, 1255, 1257, 33, 1258, 199, 1259, 1261, 1263, 34, 1264, 195, 1265, 2024, 2025, 2026, 2027, 1401] (by decide +kernel)
set_option maxRecDepth 20000 in
theorem wl_wsL_law_r64 : ∀ w ∈ wsL_law_r64, w ∈ lw_tbl := ct_at _ [1402, 1403, 1404, 2028, 2030, 97, 2031, 2032, 2033, 2035, 98, 2036, 1405, 2037, 2039, 99, 2040, 2041, 2042, 2043, 2044, 2045, 2047, 100] (by decide +kernel)
set_option maxRecDepth 20000 in
theorem wl_wsL_law_r65 : ∀ w ∈ wsL_law_r65, w ∈ lw_tbl := ct_at _ [2048, 1266, 1267, 1268, 1269, 2049, 2050, 2051, 2052, 2053, 1270, 1271, 1272, 1273, 257, 1274, 1275, 1276, 1277, 1278, 1279, 2054, 2055, 2056] (by decide +kernel)
set_option maxRecDepth 20000 in
theorem wl_wsL_law_r66 : ∀ w ∈ wsL_law_r66, w ∈ lw_tbl := ct_at _ [2057, 2058, 2060, 101, 2061, 1280, 1281, 1282, 1283, 2062, 2063, 2064, 2065, 1284, 1285, 1286, 1287, 211, 2066, 2067, 2068, 2069, 1288, 1289] (by decide +kernel)
set_option maxRecDepth 20000 in
theorem wl_wsL_law_r67 : ∀ w ∈ wsL_law_r67, w ∈ lw_tbl := ct_at _ [1290, 1291, 1292, 1293, 1294, 1295, 2070, 2071, 2072, 2073, 1296, 1297, 1298, 1299, 196, 200, 248, 1300, 1301, 1302, 1303, 1304, 1305, 1306] (by decide +kernel)
set_option maxRecDepth 20000 in
theorem wl_wsL_law_r68 : ∀ w ∈ wsL_law_r68, w ∈ lw_tbl := ct_at _ [1307, 2074, 2075, 2076, 2077, 1308, 1309, 1310, 1311, 1312, 1313, 1314, 1315, 1316, 2078, 2079, 2080, 2081, 2082, 1317, 1318, 1319, 1320, 2083] (by decide +kernel)
set_option maxRecDepth 20000 in
theorem wl_wsL_law_r69 : ∀ w ∈ wsL_law_r69, w ∈ lw_tbl := ct_at _ [2084, 2085, 2086, 1321, 1322, 1323, 1324, 1325, 1326, 1327, 1328, 1329, 1498, 1499, 1500, 1501, 1330, 1331, 1332, 1333, 1334, 1335, 1336, 1337] (by decide +kernel)
set_option maxRecDepth 20000 in
theorem wl_wsL_law_r70 : ∀ w ∈ wsL_law_r70, w ∈ lw_tbl := ct_at _ [1338, 1339, 1340, 1341, 1509, 1510, 1511, 1512, 1513, 1514, 1515, 1342, 1343, 1344, 1345, 458, 1346, 1347, 1348, 1349, 1350, 1351, 1352, 1353] (by decide +kernel)
set_option maxRecDepth 20000 in
theorem wl_wsL_law_r71 : ∀ w ∈ wsL_law_r71, w ∈ lw_tbl := ct_at _ [1354, 1516, 1517, 1518, 1519] (by decide +kernel)
set_option maxRecDepth 20000 in
theorem wl_wsX110 : ∀ w ∈ wsX110, w ∈ lw_tbl := ct_at _ [486, 488, 490, 492, 494, 496, 498, 500, 502, 504, 506, 508, 510, 512, 514, 516] (by decide +kernel)
set_option maxRecDepth 20000 in
theorem wl_wsX120 : ∀ w ∈ wsX120, w ∈ lw_tbl := ct_at _ [1406, 1408, 1410, 1412, 1414, 1416, 1418, 1420, 1422, 1424, 1426, 1428, 1430, 1432, 1434, 1436, 1438, 1440, 1442, 1444, 1446, 1448, 1450, 1452, 1454, 1456, 1458, 1460, 1462, 1464, 1466, 1468, 1470, 1472, 1474, 1476, 1478, 1480, 1482, 1484, 1486, 1488, 1490, 1492, 1494] (by decide +kernel)
set_option maxRecDepth 20000 in
theorem wl_wsX50 : ∀ w ∈ wsX50, w ∈ lw_tbl := ct_at _ [175, 177, 179, 181] (by decide +kernel)
set_option maxRecDepth 20000 in
theorem wl_wsX00 : ∀ w ∈ wsX00, w ∈ lw_tbl := ct_at _ [258, 260, 262, 264, 266, 268, 270, 272, 274, 276, 278, 280, 282, 284, 286, 288, 290] (by decide +kernel)
set_option maxRecDepth 20000 in
theorem wl_wsX10 : ∀ w ∈ wsX10, w ∈ lw_tbl := ct_at _ [309, 311, 313, 315, 317, 319] (by decide +kernel)
set_option maxRecDepth 20000 in
theorem wl_wsX60 : ∀ w ∈ wsX60, w ∈ lw_tbl := ct_at _ [329] (by decide +kernel)
set_option maxRecDepth 20000 in
theorem wl_wsX30 : ∀ w ∈ wsX30, w ∈ lw_tbl := ct_at _ [352, 354, 356, 358, 360, 362, 364, 366, 368, 370, 372, 374] (by decide +kernel)
set_option maxRecDepth 20000 in
theorem wl_wsX100 : ∀ w ∈ wsX100, w ∈ lw_tbl := ct_at _ [388, 390, 392] (by decide +kernel)
set_option maxRecDepth 20000 in
theorem wl_wsX90 : ∀ w ∈ wsX90, w ∈ lw_tbl := ct_at _ [404, 406] (by decide +kernel)
set_option maxRecDepth 20000 in
theorem wl_wsX20 : ∀ w ∈ wsX20, w ∈ lw_tbl := ct_at _ [416] (by decide +kernel)
set_option maxRecDepth 20000 in
theorem wl_wsX40 : ∀ w ∈ wsX40, w ∈ lw_tbl := ct_at _ [436, 438, 440, 442, 444, 446, 448] (by decide +kernel)
set_option maxRecDepth 20000 in
theorem wl_wsX70 : ∀ w ∈ wsX70, w ∈ lw_tbl := ct_at _ [462, 464, 466] (by decide +kernel)
set_option maxRecDepth 20000 in
theorem wl_wsX80 : ∀ w ∈ wsX80, w ∈ lw_tbl := ct_at _ [154, 156, 158, 160, 162, 164] (by decide +kernel)
theorem wsL_law_in : ∀ w ∈ wsL_law, w ∈ lw_tbl := (List.forall_mem_append.mpr ⟨(List.forall_mem_append.mpr ⟨(List.forall_mem_append.mpr ⟨(List.forall_mem_append.mpr ⟨(List.forall_mem_append.mpr ⟨(List.forall_mem_append.mpr ⟨(List.forall_mem_append.mpr ⟨(List.forall_mem_append.mpr ⟨(List.forall_mem_append.mpr ⟨(List.forall_mem_append.mpr ⟨(List.forall_mem_append.mpr ⟨(List.forall_mem_append.mpr ⟨(List.forall_mem_append.mpr ⟨(List.forall_mem_append.mpr ⟨(List.forall_mem_append.mpr ⟨wl_wsL_law_r1, (List.forall_mem_append.mpr ⟨wl_wsL_law_r2, (List.forall_mem_append.mpr ⟨wl_wsL_law_r3, (List.forall_mem_append.mpr ⟨wl_wsL_law_r4, (List.forall_mem_append.mpr ⟨wl_wsL_law_r5, (List.forall_mem_append.mpr ⟨wl_wsL_law_r6, (List.forall_mem_append.mpr ⟨wl_wsL_law_r7, (List.forall_mem_append.mpr ⟨wl_wsL_law_r8, (List.forall_mem_append.mpr ⟨wl_wsL_law_r9, (List.forall_mem_append.mpr ⟨wl_wsL_law_r10, (List.forall_mem_append.mpr ⟨wl_wsL_law_r11, (List.forall_mem_append.mpr ⟨wl_wsL_law_r12, (List.forall_mem_append.mpr ⟨wl_wsL_law_r13, (List.forall_mem_append.mpr ⟨wl_wsL_law_r14, (List.forall_mem_append.mpr ⟨wl_wsL_law_r15, (List.forall_mem_append.mpr ⟨wl_wsL_law_r16, (List.forall_mem_append.mpr ⟨wl_wsL_law_r17, (List.forall_mem_append.mpr ⟨wl_wsL_law_r18, (List.forall_mem_append.mpr ⟨wl_wsL_law_r19, (List.forall_mem_append.mpr ⟨wl_wsL_law_r20, (List.forall_mem_append.mpr ⟨wl_wsL_law_r21, (List.forall_mem_append.mpr ⟨wl_wsL_law_r22, (List.forall_mem_append.mpr ⟨wl_wsL_law_r23, (List.forall_mem_append.mpr ⟨wl_wsL_law_r24, (List.forall_mem_append.mpr ⟨wl_wsL_law_r25, (List.forall_mem_append.mpr ⟨wl_wsL_law_r26, (List.forall_mem_append.mpr ⟨wl_wsL_law_r27, (List.forall_mem_append.mpr ⟨wl_wsL_law_r28, (List.forall_mem_append.mpr ⟨wl_wsL_law_r29, (List.forall_mem_append.mpr ⟨wl_wsL_law_r30, (List.forall_mem_append.mpr ⟨wl_wsL_law_r31, (List.forall_mem_append.mpr ⟨wl_wsL_law_r32, (List.forall_mem_append.mpr ⟨wl_wsL_law_r33, (List.forall_mem_append.mpr ⟨wl_wsL_law_r34, (List.forall_mem_append.mpr ⟨wl_wsL_law_r35, (List.forall_mem_append.mpr ⟨wl_wsL_law_r36, (List.forall_mem_append.mpr ⟨wl_wsL_law_r37, (List.forall_mem_append.mpr ⟨wl_wsL_law_r38, (List.forall_mem_append.mpr ⟨wl_wsL_law_r39, (List.forall_mem_append.mpr ⟨wl_wsL_law_r40, (List.forall_mem_append.mpr ⟨wl_wsL_law_r41, (List.forall_mem_append.mpr ⟨wl_wsL_law_r42, (List.forall_mem_append.mpr ⟨wl_wsL_law_r43, (List.forall_mem_append.mpr ⟨wl_wsL_law_r44, (List.forall_mem_append.mpr ⟨wl_wsL_law_r45, (List.forall_mem_append.mpr ⟨wl_wsL_law_r46, (List.forall_mem_append.mpr ⟨wl_wsL_law_r47, (List.forall_mem_append.mpr ⟨wl_wsL_law_r48, (List.forall_mem_append.mpr ⟨wl_wsL_law_r49, (List.forall_mem_append.mpr ⟨wl_wsL_law_r50, (List.forall_mem_append.mpr ⟨wl_wsL_law_r51, (List.forall_mem_append.mpr ⟨wl_wsL_law_r52, (List.forall_mem_append.mpr ⟨wl_wsL_law_r53, (List.forall_mem_append.mpr ⟨wl_wsL_law_r54, (List.forall_mem_append.mpr ⟨wl_wsL_law_r55, (List.forall_mem_append.mpr ⟨wl_wsL_law_r56, (List.forall_mem_append.mpr ⟨wl_wsL_law_r57, (List.forall_mem_append.mpr ⟨wl_wsL_law_r58, (List.forall_mem_append.mpr ⟨wl_wsL_law_r59, (List.forall_mem_append.mpr ⟨wl_wsL_law_r60, (List.forall_mem_append.mpr ⟨wl_wsL_law_r61, (List.forall_mem_append.mpr ⟨wl_wsL_law_r62, (List.forall_mem_append.mpr ⟨wl_wsL_law_r63, (List.forall_mem_append.mpr ⟨wl_wsL_law_r64, (List.forall_mem_append.mpr ⟨wl_wsL_law_r65, (List.forall_mem_append.mpr ⟨wl_wsL_law_r66, (List.forall_mem_append.mpr ⟨wl_wsL_law_r67, (List.forall_mem_append.mpr ⟨wl_wsL_law_r68, (List.forall_mem_append.mpr ⟨wl_wsL_law_r69, (List.forall_mem_append.mpr ⟨wl_wsL_law_r70, wl_wsL_law_r71⟩)⟩)⟩)⟩)⟩)⟩)⟩)⟩)⟩)⟩)⟩)⟩)⟩)⟩)⟩)⟩)⟩)⟩)⟩)⟩)⟩)⟩)⟩)⟩)⟩)⟩)⟩)⟩)⟩)⟩)⟩)⟩)⟩)⟩)⟩)⟩)⟩)⟩)⟩)⟩)⟩)⟩)⟩)⟩)⟩)⟩)⟩)⟩)⟩)⟩)⟩)⟩)⟩)⟩)⟩)⟩)⟩)⟩)⟩)⟩)⟩)⟩)⟩)⟩)⟩)⟩)⟩)⟩)⟩)⟩), wl_wsX110⟩), wl_wsX120⟩), wl_wsX50⟩), wl_wsX00⟩), wl_wsX10⟩), wl_wsX60⟩), wl_wsX30⟩), wl_wsX100⟩), wl_wsX90⟩), wl_wsX20⟩), wl_wsX40⟩), wl_wsX70⟩), wl_wsX80⟩), wl_[] : List Cond⟩)
