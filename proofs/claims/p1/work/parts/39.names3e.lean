set_option maxRecDepth 20000 in
theorem ggL_law_X11_leaves : GoodIn wsL_law wsX11_leaves := goodIn_r _ [1140, 40, 1141, 984, 985, 986, 2, 987, 22, 60, 988, 519, 520, 521, 21, 522, 205, 523, 524, 525, 526, 527, 528, 989, 990, 991, 59, 992, 125, 993, 994, 995, 996, 997, 998, 999, 1000, 1001, 1002, 1003, 1004, 127, 1005, 1006, 1007, 1008, 1009, 1010, 1011, 1012, 1013, 1014, 1015, 39, 1016, 1017, 1018, 1019, 1020, 1021, 99, 1022, 1023, 1024, 1025, 1026, 1027, 100, 102, 1028, 1029, 101, 1030, 211, 212, 213, 632, 633, 634, 635, 636, 637, 1031, 1032, 1033, 1034, 1035, 1036, 227, 228, 229, 1037, 1038, 1039, 1040, 1041, 1042, 1043, 1113, 1114, 1115, 1116, 1117, 1118, 103, 1119, 1045, 1046, 1047, 1048, 1049, 1050, 1051, 1052, 1053, 1054, 1055, 1056, 1057, 944, 1058, 1059, 1060, 1061, 1120, 1121, 1122, 1123, 104, 1124, 1125, 1126, 1127, 1685, 1686, 1687, 1688, 1689, 1690, 1691, 1692, 1693, 1694, 1695, 1696, 1697, 1698, 1699, 1700, 1774, 1775, 1776, 1777, 1778, 1779, 1780, 1781, 1782, 1783, 1784, 1785, 1799, 1800, 1801, 1750, 1751, 1752, 1753, 1754, 1755, 1756, 1757, 1758, 1759, 1760, 1761, 1762, 1763, 1764, 1765, 1766] (by decide +kernel) (by decide +kernel)
set_option maxRecDepth 20000 in
theorem gL_law_X11_leaves : GoodIn wsL_law (wsV RL 143 RX11 yX11_leaves wsX11_leaves) := goodIn_app (goodIn_of _ (by decide +kernel)) ggL_law_X11_leaves
set_option maxRecDepth 20000 in
theorem ggL_law_X12_leaves : GoodIn wsL_law wsX12_leaves := goodIn_r _ [1145, 169, 1136, 1067, 1068, 1069, 5, 1070, 132, 133, 134, 404, 568, 1071, 1072, 1073, 582, 183, 184, 185, 541, 542, 543, 544, 545, 546, 547, 548, 138, 595, 596, 597, 598, 1132, 1133, 1134, 1135, 1066, 152, 1074, 1075, 1076, 1077, 1078, 1079, 654, 655, 656, 657, 139, 150, 151, 144, 140, 142, 549, 550, 551, 552, 1080, 1081, 1082, 1083, 683, 684, 685, 686, 1701, 1702, 1703, 1704, 1705, 1706, 1707, 1708, 1709, 1710, 1711, 1712, 1713, 1714, 1715, 1716, 1717, 1718, 1719, 1720, 1721, 1722, 1723, 1724, 1725, 1726, 1727, 1728, 1729, 1730, 1731, 1732, 1733, 1734, 1735, 1736, 1737, 1738, 1739, 1740, 1741, 1742, 1743, 1744, 1745] (by decide +kernel) (by decide +kernel)
set_option maxRecDepth 20000 in
theorem gL_law_X12_leaves : GoodIn wsL_law (wsV RL 146 RX12 yX12_leaves wsX12_leaves) := goodIn_app (goodIn_of _ (by decide +kernel)) ggL_law_X12_leaves
set_option maxRecDepth 20000 in
theorem ggL_law_X11_crosses : GoodIn wsL_law wsX11_crosses := goodIn_r _ [1149, 22, 44, 519, 520, 521, 21, 522, 205, 588, 589, 2, 590, 526, 527, 528, 1150, 1151, 1152, 43, 1153, 1154, 1155, 108, 632, 633, 634, 635, 636, 637, 1685, 1686, 1687, 1688, 1689, 1690, 1691, 1692, 1693, 1694, 1695, 1696, 1697, 1698, 1699, 1700, 1750, 1751, 1752, 1753, 1754, 1755, 1756, 1757, 1758, 1759, 1760, 1761, 1762, 1763, 1764, 1765, 1766, 1786, 1787, 1788] (by decide +kernel) (by decide +kernel)
set_option maxRecDepth 20000 in
theorem gL_law_X11_crosses : GoodIn wsL_law (wsV RL 147 RX11 yX11_crosses wsX11_crosses) := goodIn_app (goodIn_of _ (by decide +kernel)) ggL_law_X11_crosses
set_option maxRecDepth 20000 in
theorem ggL_law_X12_crosses : GoodIn wsL_law wsX12_crosses := goodIn_r _ [1159, 169, 545, 546, 547, 5, 548, 138, 595, 596, 597, 598, 183, 184, 185, 1160, 1161, 1162, 1163, 139, 145, 153, 1164, 1165, 1166, 1701, 1702, 1703, 1704, 1705, 1706, 1707, 1708, 1709, 1710, 1711, 1712, 1713, 1714, 1715, 1716, 1717, 1718, 1719, 1720, 1721, 1722, 1723, 1724, 1725, 1726, 1727, 1728, 1729, 1730, 1731, 1732, 1733, 1734, 1735, 1736, 1737, 1738, 1739, 1740, 1741, 1742, 1743, 1744, 1745] (by decide +kernel) (by decide +kernel)
set_option maxRecDepth 20000 in
theorem gL_law_X12_crosses : GoodIn wsL_law (wsV RL 150 RX12 yX12_crosses wsX12_crosses) := goodIn_app (goodIn_of _ (by decide +kernel)) ggL_law_X12_crosses
set_option maxRecDepth 20000 in
theorem ggL_law_X11_returns : GoodIn wsL_law wsX11_returns := goodIn_r _ [1170, 22, 44, 519, 520, 521, 21, 522, 205, 588, 589, 2, 590, 526, 527, 528, 1150, 1151, 1152, 43, 1153, 1154, 1155, 108, 632, 633, 634, 635, 636, 637, 1685, 1686, 1687, 1688, 1689, 1690, 1691, 1692, 1693, 1694, 1695, 1696, 1697, 1698, 1699, 1700, 1750, 1751, 1752, 1753, 1754, 1755, 1756, 1757, 1758, 1759, 1760, 1761, 1762, 1763, 1764, 1765, 1766, 1786, 1787, 1788] (by decide +kernel) (by decide +kernel)
set_option maxRecDepth 20000 in
theorem gL_law_X11_returns : GoodIn wsL_law (wsV RL 151 RX11 yX11_returns wsX11_returns) := goodIn_app (goodIn_of _ (by decide +kernel)) ggL_law_X11_returns
set_option maxRecDepth 20000 in
theorem ggL_law_X12_returns : GoodIn wsL_law wsX12_returns := goodIn_r _ [1174, 169, 545, 546, 547, 5, 548, 138, 595, 596, 597, 598, 183, 184, 185, 1160, 1161, 1162, 1163, 139, 145, 153, 1164, 1165, 1166, 1701, 1702, 1703, 1704, 1705, 1706, 1707, 1708, 1709, 1710, 1711, 1712, 1713, 1714, 1715, 1716, 1717, 1718, 1719, 1720, 1721, 1722, 1723, 1724, 1725, 1726, 1727, 1728, 1729, 1730, 1731, 1732, 1733, 1734, 1735, 1736, 1737, 1738, 1739, 1740, 1741, 1742, 1743, 1744, 1745] (by decide +kernel) (by decide +kernel)
set_option maxRecDepth 20000 in
theorem gL_law_X12_returns : GoodIn wsL_law (wsV RL 154 RX12 yX12_returns wsX12_returns) := goodIn_app (goodIn_of _ (by decide +kernel)) ggL_law_X12_returns
set_option maxRecDepth 20000 in
theorem ggL_law_X11_meet : GoodIn wsL_law wsX11_meet := goodIn_r _ [1178, 22, 44, 1179, 519, 520, 521, 21, 522, 205, 588, 589, 2, 590, 526, 527, 528, 1180, 1181, 1182, 43, 1183, 1184, 1185, 1154, 108, 1186, 1038, 228, 1039, 1187, 1151, 1152, 1153, 1155, 632, 633, 634, 635, 636, 637, 1685, 1686, 1687, 1688, 1689, 1690, 1691, 1692, 1693, 1694, 1695, 1696, 1697, 1698, 1699, 1700, 1786, 1787, 1788, 1750, 1751, 1752, 1753, 1754, 1755, 1756, 1757, 1758, 1759, 1760, 1761, 1762, 1763, 1764, 1765, 1766] (by decide +kernel) (by decide +kernel)
set_option maxRecDepth 20000 in
theorem gL_law_X11_meet : GoodIn wsL_law (wsV RL 155 RX11 yX11_meet wsX11_meet) := goodIn_app (goodIn_of _ (by decide +kernel)) ggL_law_X11_meet
set_option maxRecDepth 20000 in
theorem ggL_law_X12_meet : GoodIn wsL_law wsX12_meet := goodIn_r _ [1191, 169, 1192, 545, 546, 547, 5, 548, 138, 595, 596, 597, 598, 183, 184, 185, 1193, 1194, 1195, 1196, 408, 1197, 139, 153, 1160, 1161, 1162, 1163, 145, 1164, 1165, 1166, 1701, 1702, 1703, 1704, 1705, 1706, 1707, 1708, 1709, 1710, 1711, 1712, 1713, 1714, 1715, 1716, 1717, 1718, 1719, 1720, 1721, 1722, 1723, 1724, 1725, 1726, 1727, 1728, 1729, 1730, 1731, 1732, 1733, 1734, 1735, 1736, 1737, 1738, 1739, 1740, 1741, 1742, 1743, 1744, 1745] (by decide +kernel) (by decide +kernel)
set_option maxRecDepth 20000 in
theorem gL_law_X12_meet : GoodIn wsL_law (wsV RL 158 RX12 yX12_meet wsX12_meet) := goodIn_app (goodIn_of _ (by decide +kernel)) ggL_law_X12_meet
set_option maxRecDepth 20000 in
theorem ggL_law_X11_cell : GoodIn wsL_law wsX11_cell := goodIn_r _ [1201, 22, 44, 1202, 519, 520, 521, 21, 522, 205, 588, 589, 2, 590, 526, 527, 528, 1180, 1181, 1182, 43, 1183, 1184, 1185, 1154, 108, 1186, 1038, 228, 1039, 1187, 1151, 1152, 1153, 1155, 632, 633, 634, 635, 636, 637, 1685, 1686, 1687, 1688, 1689, 1690, 1691, 1692, 1693, 1694, 1695, 1696, 1697, 1698, 1699, 1700, 1786, 1787, 1788, 1750, 1751, 1752, 1753, 1754, 1755, 1756, 1757, 1758, 1759, 1760, 1761, 1762, 1763, 1764, 1765, 1766] (by decide +kernel) (by decide +kernel)
set_option maxRecDepth 20000 in
theorem gL_law_X11_cell : GoodIn wsL_law (wsV RL 159 RX11 yX11_cell wsX11_cell) := goodIn_app (goodIn_of _ (by decide +kernel)) ggL_law_X11_cell
set_option maxRecDepth 20000 in
theorem ggL_law_X12_cell : GoodIn wsL_law wsX12_cell := goodIn_r _ [1206, 169, 1197, 545, 546, 547, 5, 548, 138, 595, 596, 597, 598, 183, 184, 185, 1193, 1194, 1195, 1196, 408, 1192, 139, 153, 1160, 1161, 1162, 1163, 145, 1701, 1702, 1703, 1704, 1705, 1706, 1707, 1708, 1709, 1710, 1711, 1712, 1713, 1714, 1715, 1716, 1717, 1718, 1719, 1720, 1721, 1722, 1723, 1724, 1725, 1726, 1727, 1728, 1729, 1730, 1731, 1732, 1733, 1734, 1735, 1736, 1737, 1738, 1739, 1740, 1741, 1742, 1743, 1744, 1745] (by decide +kernel) (by decide +kernel)
set_option maxRecDepth 20000 in
theorem gL_law_X12_cell : GoodIn wsL_law (wsV RL 162 RX12 yX12_cell wsX12_cell) := goodIn_app (goodIn_of _ (by decide +kernel)) ggL_law_X12_cell
set_option maxRecDepth 20000 in
theorem ggL_law_X11_longest : GoodIn wsL_law wsX11_longest := goodIn_r _ [1210, 22, 44, 519, 520, 521, 21, 522, 205, 1211, 1212, 1213, 43, 1214, 1186, 1038, 228, 1039, 1187, 1151, 1152, 1153, 1154, 1155, 108, 632, 2, 633, 634, 635, 636, 637, 1685, 1686, 1687, 1688, 1689, 1690, 1691, 1692, 1693, 1694, 1695, 1696, 1697, 1698, 1699, 1700, 1750, 1751, 1752, 1753, 1754, 1755, 1756, 1757, 1758, 1759, 1760, 1761, 1762, 1763, 1764, 1765, 1766, 1786, 1787, 1788] (by decide +kernel) (by decide +kernel)
set_option maxRecDepth 20000 in
theorem gL_law_X11_longest : GoodIn wsL_law (wsV RL 163 RX11 yX11_longest wsX11_longest) := goodIn_app (goodIn_of _ (by decide +kernel)) ggL_law_X11_longest
set_option maxRecDepth 20000 in
theorem ggL_law_X12_longest : GoodIn wsL_law wsX12_longest := goodIn_r _ [1218, 169, 545, 546, 547, 5, 548, 138, 1160, 1161, 1162, 1163, 139, 145, 153, 1701, 1702, 1703, 1704, 1705, 1706, 1707, 1708, 1709, 1710, 1711, 1712, 1713, 1714, 1715, 1716, 1717, 1718, 1719, 1720, 1721, 1722, 1723, 1724, 1725, 1726, 1727, 1728, 1729, 1730, 1731, 1732, 1733, 1734, 1735, 1736, 1737, 1738, 1739, 1740, 1741, 1742, 1743, 1744, 1745] (by decide +kernel) (by decide +kernel)
set_option maxRecDepth 20000 in
theorem gL_law_X12_longest : GoodIn wsL_law (wsV RL 166 RX12 yX12_longest wsX12_longest) := goodIn_app (goodIn_of _ (by decide +kernel)) ggL_law_X12_longest
set_option maxRecDepth 20000 in
theorem ggL_law_X11_half : GoodIn wsL_law wsX11_half := goodIn_r _ [1222, 60, 1223, 1224, 1225, 59, 1226, 125, 994, 995, 996, 527, 2, 528, 997, 998, 999, 1000, 1001, 1002, 1003, 1004, 127, 1008, 1009, 1010, 1011, 1012, 1005, 1006, 1007, 1227, 1228, 1229, 1230, 1231, 1232, 1233, 1234, 632, 633, 634, 635, 636, 637, 1235, 1236, 1237, 1238, 1685, 1686, 1687, 1688, 1689, 1690, 1691, 1692, 1693, 1694, 1695, 1696, 1697, 1698, 1699, 1700, 1799, 1800, 1801] (by decide +kernel) (by decide +kernel)
set_option maxRecDepth 20000 in
theorem gL_law_X11_half : GoodIn wsL_law (wsV RL 167 RX11 yX11_half wsX11_half) := goodIn_app (goodIn_of _ (by decide +kernel)) ggL_law_X11_half
set_option maxRecDepth 20000 in
theorem ggL_law_X12_half : GoodIn wsL_law wsX12_half := goodIn_r _ [1242, 169, 1243, 1244, 1245, 5, 1246, 132, 133, 134, 404, 568, 1071, 1072, 1073, 582, 183, 184, 185, 1247, 1248, 1249, 1250, 1251, 1252, 1253, 1254, 149, 1701, 1702, 1703, 1704, 1705, 1706, 1707, 1708, 1709, 1710, 1711, 1712, 1713, 1714, 1715, 1716, 1717, 1718, 1719, 1720, 1721, 1722, 1723, 1724, 1725, 1726, 1727, 1728, 1729, 1730, 1731, 1732, 1733, 1734, 1735, 1736, 1737, 1738, 1739, 1740, 1741, 1742, 1743, 1744, 1745] (by decide +kernel) (by decide +kernel)
set_option maxRecDepth 20000 in
theorem gL_law_X12_half : GoodIn wsL_law (wsV RL 170 RX12 yX12_half wsX12_half) := goodIn_app (goodIn_of _ (by decide +kernel)) ggL_law_X12_half
set_option maxRecDepth 20000 in
theorem ggL_law_X11_fills : GoodIn wsL_law wsX11_fills := goodIn_r _ [1258, 60, 1223, 1224, 1225, 59, 1226, 125, 994, 995, 996, 527, 2, 528, 997, 998, 999, 1000, 1001, 1002, 1003, 1004, 127, 1008, 1009, 1010, 1011, 1012, 1005, 1006, 1007, 1227, 1228, 1229, 1230, 1231, 1232, 1233, 1234, 632, 633, 634, 635, 636, 637, 1235, 1236, 1237, 1238, 526, 1259, 1685, 1686, 1687, 1688, 1689, 1690, 1691, 1692, 1693, 1694, 1695, 1696, 1697, 1698, 1699, 1700, 1799, 1800, 1801] (by decide +kernel) (by decide +kernel)
set_option maxRecDepth 20000 in
theorem gL_law_X11_fills : GoodIn wsL_law (wsV RL 171 RX11 yX11_fills wsX11_fills) := goodIn_app (goodIn_of _ (by decide +kernel)) ggL_law_X11_fills
set_option maxRecDepth 20000 in
theorem ggL_law_X12_fills : GoodIn wsL_law wsX12_fills := goodIn_r _ [1263, 169, 149, 1243, 1244, 1245, 5, 1246, 132, 133, 134, 404, 568, 1071, 1072, 1073, 582, 183, 184, 185, 1247, 1248, 1249, 1250, 1251, 1252, 1253, 1254, 1701, 1702, 1703, 1704, 1705, 1706, 1707, 1708, 1709, 1710, 1711, 1712, 1713, 1714, 1715, 1716, 1717, 1718, 1719, 1720, 1721, 1722, 1723, 1724, 1725, 1726, 1727, 1728, 1729, 1730, 1731, 1732, 1733, 1734, 1735, 1736, 1737, 1738, 1739, 1740, 1741, 1742, 1743, 1744, 1745] (by decide +kernel) (by decide +kernel)
set_option maxRecDepth 20000 in
theorem gL_law_X12_fills : GoodIn wsL_law (wsV RL 174 RX12 yX12_fills wsX12_fills) := goodIn_app (goodIn_of _ (by decide +kernel)) ggL_law_X12_fills
