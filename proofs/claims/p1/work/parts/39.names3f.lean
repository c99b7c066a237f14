set_option maxRecDepth 20000 in
theorem ggL_law_X11_open : GoodIn wsL_law wsX11_open := goodIn_r _ [1267, 60, 1223, 1224, 1225, 59, 1226, 125, 994, 995, 996, 527, 2, 528, 997, 998, 999, 1000, 1001, 1002, 1003, 1004, 127, 1008, 1009, 1010, 1011, 1012, 1005, 1006, 1007, 1227, 1228, 1229, 1230, 1231, 1232, 1233, 1234, 632, 633, 634, 635, 636, 637, 1235, 1236, 1237, 1238, 1268, 1269, 1270, 1271, 1685, 1686, 1687, 1688, 1689, 1690, 1691, 1692, 1693, 1694, 1695, 1696, 1697, 1698, 1699, 1700, 1799, 1800, 1801] (by decide +kernel) (by decide +kernel)
set_option maxRecDepth 20000 in
theorem gL_law_X11_open : GoodIn wsL_law (wsV RL 175 RX11 yX11_open wsX11_open) := goodIn_app (goodIn_of _ (by decide +kernel)) ggL_law_X11_open
set_option maxRecDepth 20000 in
theorem ggL_law_X12_open : GoodIn wsL_law wsX12_open := goodIn_r _ [1275, 169, 149, 1243, 1244, 1245, 5, 1246, 132, 133, 134, 404, 568, 1071, 1072, 1073, 582, 183, 184, 185, 1247, 1248, 1249, 1250, 1251, 1252, 1253, 1254, 1701, 1702, 1703, 1704, 1705, 1706, 1707, 1708, 1709, 1710, 1711, 1712, 1713, 1714, 1715, 1716, 1717, 1718, 1719, 1720, 1721, 1722, 1723, 1724, 1725, 1726, 1727, 1728, 1729, 1730, 1731, 1732, 1733, 1734, 1735, 1736, 1737, 1738, 1739, 1740, 1741, 1742, 1743, 1744, 1745] (by decide +kernel) (by decide +kernel)
set_option maxRecDepth 20000 in
theorem gL_law_X12_open : GoodIn wsL_law (wsV RL 178 RX12 yX12_open wsX12_open) := goodIn_app (goodIn_of _ (by decide +kernel)) ggL_law_X12_open
set_option maxRecDepth 20000 in
theorem ggL_law_X11_together : GoodIn wsL_law wsX11_together := goodIn_r _ [1279, 1280, 48, 22, 1281, 1282, 1283, 2, 1284, 1285, 519, 520, 521, 21, 522, 205, 526, 527, 528, 588, 589, 590, 1286, 1287, 1288, 47, 1289, 1290, 1291, 1292, 1293, 1294, 1295, 1296, 1297, 1298, 831, 832, 833, 834, 835, 1299, 1300, 1301, 1302, 1303, 1304, 636, 1305, 1685, 1686, 1687, 1688, 1689, 1690, 1691, 1692, 1693, 1694, 1695, 1696, 1697, 1698, 1699, 1700, 1750, 1751, 1752, 1753, 1754, 1755, 1756, 1757, 1758, 1759, 1760, 1761, 1762, 1763, 1764, 1765, 1766, 1789, 1790] (by decide +kernel) (by decide +kernel)
set_option maxRecDepth 20000 in
theorem gL_law_X11_together : GoodIn wsL_law (wsV RL 179 RX11 yX11_together wsX11_together) := goodIn_app (goodIn_of _ (by decide +kernel)) ggL_law_X11_together
set_option maxRecDepth 20000 in
theorem ggL_law_X12_together : GoodIn wsL_law wsX12_together := goodIn_r _ [1309, 169, 1310, 1311, 1312, 1313, 5, 1314, 139, 545, 546, 547, 548, 138, 183, 184, 185, 595, 596, 597, 598, 1315, 1316, 1317, 1318, 146, 404, 727, 728, 729, 1319, 1320, 1321, 1701, 1702, 1703, 1704, 1705, 1706, 1707, 1708, 1709, 1710, 1711, 1712, 1713, 1714, 1715, 1716, 1717, 1718, 1719, 1720, 1721, 1722, 1723, 1724, 1725, 1726, 1727, 1728, 1729, 1730, 1731, 1732, 1733, 1734, 1735, 1736, 1737, 1738, 1739, 1740, 1741, 1742, 1743, 1744, 1745] (by decide +kernel) (by decide +kernel)
set_option maxRecDepth 20000 in
theorem gL_law_X12_together : GoodIn wsL_law (wsV RL 182 RX12 yX12_together wsX12_together) := goodIn_app (goodIn_of _ (by decide +kernel)) ggL_law_X12_together
set_option maxRecDepth 20000 in
theorem ggL_law_X11_again : GoodIn wsL_law wsX11_again := goodIn_r _ [1325, 1280, 48, 22, 1326, 1281, 1282, 1283, 2, 1284, 1285, 519, 520, 521, 21, 522, 205, 526, 527, 528, 1286, 1287, 1288, 47, 1289, 1290, 1291, 1292, 1293, 1294, 1295, 1296, 1297, 1298, 831, 832, 833, 834, 835, 1685, 1686, 1687, 1688, 1689, 1690, 1691, 1692, 1693, 1694, 1695, 1696, 1697, 1698, 1699, 1700, 1789, 1790, 1750, 1751, 1752, 1753, 1754, 1755, 1756, 1757, 1758, 1759, 1760, 1761, 1762, 1763, 1764, 1765, 1766] (by decide +kernel) (by decide +kernel)
set_option maxRecDepth 20000 in
theorem gL_law_X11_again : GoodIn wsL_law (wsV RL 183 RX11 yX11_again wsX11_again) := goodIn_app (goodIn_of _ (by decide +kernel)) ggL_law_X11_again
set_option maxRecDepth 20000 in
theorem ggL_law_X12_again : GoodIn wsL_law wsX12_again := goodIn_r _ [1330, 169, 1310, 1311, 1312, 1313, 5, 1314, 139, 545, 546, 547, 548, 138, 183, 184, 185, 1331, 1332, 1333, 1334, 146, 727, 728, 729, 1319, 1320, 1321, 1701, 1702, 1703, 1704, 1705, 1706, 1707, 1708, 1709, 1710, 1711, 1712, 1713, 1714, 1715, 1716, 1717, 1718, 1719, 1720, 1721, 1722, 1723, 1724, 1725, 1726, 1727, 1728, 1729, 1730, 1731, 1732, 1733, 1734, 1735, 1736, 1737, 1738, 1739, 1740, 1741, 1742, 1743, 1744, 1745] (by decide +kernel) (by decide +kernel)
set_option maxRecDepth 20000 in
theorem gL_law_X12_again : GoodIn wsL_law (wsV RL 187 RX12 yX12_again wsX12_again) := goodIn_app (goodIn_of _ (by decide +kernel)) ggL_law_X12_again
set_option maxRecDepth 20000 in
theorem ggL_law_X11_most : GoodIn wsL_law wsX11_most := goodIn_r _ [1338, 22, 48, 519, 520, 521, 21, 522, 205, 1339, 1340, 1341, 47, 1342, 1292, 1291, 1298, 1343, 1057, 944, 1058, 1059, 1060, 1061, 1344, 1287, 1288, 1289, 1290, 1293, 1294, 1295, 1296, 1297, 831, 2, 832, 833, 834, 835, 1345, 1685, 1686, 1687, 1688, 1689, 1690, 1691, 1692, 1693, 1694, 1695, 1696, 1697, 1698, 1699, 1700, 1750, 1751, 1752, 1753, 1754, 1755, 1756, 1757, 1758, 1759, 1760, 1761, 1762, 1763, 1764, 1765, 1766, 1789, 1790] (by decide +kernel) (by decide +kernel)
set_option maxRecDepth 20000 in
theorem gL_law_X11_most : GoodIn wsL_law (wsV RL 188 RX11 yX11_most wsX11_most) := goodIn_app (goodIn_of _ (by decide +kernel)) ggL_law_X11_most
set_option maxRecDepth 20000 in
theorem ggL_law_X12_most : GoodIn wsL_law wsX12_most := goodIn_r _ [1349, 169, 545, 546, 547, 5, 548, 138, 1350, 1351, 1352, 1353, 139, 404, 1354, 1355, 1356, 1315, 1316, 1317, 1318, 146, 727, 728, 729, 1319, 1320, 1321, 1701, 1702, 1703, 1704, 1705, 1706, 1707, 1708, 1709, 1710, 1711, 1712, 1713, 1714, 1715, 1716, 1717, 1718, 1719, 1720, 1721, 1722, 1723, 1724, 1725, 1726, 1727, 1728, 1729, 1730, 1731, 1732, 1733, 1734, 1735, 1736, 1737, 1738, 1739, 1740, 1741, 1742, 1743, 1744, 1745] (by decide +kernel) (by decide +kernel)
set_option maxRecDepth 20000 in
theorem gL_law_X12_most : GoodIn wsL_law (wsV RL 191 RX12 yX12_most wsX12_most) := goodIn_app (goodIn_of _ (by decide +kernel)) ggL_law_X12_most
set_option maxRecDepth 20000 in
theorem ggL_law_X11_chorus : GoodIn wsL_law wsX11_chorus := goodIn_r _ [1360, 22, 48, 519, 520, 521, 21, 522, 205, 1339, 1340, 1341, 47, 1342, 1292, 1291, 1298, 1343, 1057, 944, 1058, 1059, 1060, 1061, 1344, 1287, 1288, 1289, 1290, 1293, 1294, 1295, 1296, 1297, 831, 2, 832, 833, 834, 835, 1685, 1686, 1687, 1688, 1689, 1690, 1691, 1692, 1693, 1694, 1695, 1696, 1697, 1698, 1699, 1700, 1750, 1751, 1752, 1753, 1754, 1755, 1756, 1757, 1758, 1759, 1760, 1761, 1762, 1763, 1764, 1765, 1766, 1789, 1790] (by decide +kernel) (by decide +kernel)
set_option maxRecDepth 20000 in
theorem gL_law_X11_chorus : GoodIn wsL_law (wsV RL 192 RX11 yX11_chorus wsX11_chorus) := goodIn_app (goodIn_of _ (by decide +kernel)) ggL_law_X11_chorus
set_option maxRecDepth 20000 in
theorem ggL_law_X12_chorus : GoodIn wsL_law wsX12_chorus := goodIn_r _ [1364, 169, 545, 546, 547, 5, 548, 138, 1350, 1351, 1352, 1353, 139, 404, 1354, 1355, 1356, 1315, 1316, 1317, 1318, 146, 727, 728, 729, 1319, 1320, 1321, 1701, 1702, 1703, 1704, 1705, 1706, 1707, 1708, 1709, 1710, 1711, 1712, 1713, 1714, 1715, 1716, 1717, 1718, 1719, 1720, 1721, 1722, 1723, 1724, 1725, 1726, 1727, 1728, 1729, 1730, 1731, 1732, 1733, 1734, 1735, 1736, 1737, 1738, 1739, 1740, 1741, 1742, 1743, 1744, 1745] (by decide +kernel) (by decide +kernel)
set_option maxRecDepth 20000 in
theorem gL_law_X12_chorus : GoodIn wsL_law (wsV RL 195 RX12 yX12_chorus wsX12_chorus) := goodIn_app (goodIn_of _ (by decide +kernel)) ggL_law_X12_chorus
set_option maxRecDepth 20000 in
theorem ggL_law_X11_treaties : GoodIn wsL_law wsX11_treaties := goodIn_r _ [1368, 22, 519, 520, 521, 21, 522, 205, 1369, 712, 713, 714, 80, 1685, 1686, 1687, 1688, 1689, 1690, 1691, 1692, 1693, 1694, 1695, 1696, 1697, 1698, 1699, 1700, 1750, 1751, 1752, 1753, 1754, 1755, 1756, 1757, 1758, 1759, 1760, 1761, 1762, 1763, 1764, 1765, 1766] (by decide +kernel) (by decide +kernel)
set_option maxRecDepth 20000 in
theorem gL_law_X11_treaties : GoodIn wsL_law (wsV RL 196 RX11 yX11_treaties wsX11_treaties) := goodIn_app (goodIn_of _ (by decide +kernel)) ggL_law_X11_treaties
set_option maxRecDepth 20000 in
theorem ggL_law_X12_treaties : GoodIn wsL_law wsX12_treaties := goodIn_r _ [1373, 169, 141, 545, 546, 547, 5, 548, 138, 727, 728, 729, 1701, 1702, 1703, 1704, 1705, 1706, 1707, 1708, 1709, 1710, 1711, 1712, 1713, 1714, 1715, 1716, 1717, 1718, 1719, 1720, 1721, 1722, 1723, 1724, 1725, 1726, 1727, 1728, 1729, 1730, 1731, 1732, 1733, 1734, 1735, 1736, 1737, 1738, 1739, 1740, 1741, 1742, 1743, 1744, 1745] (by decide +kernel) (by decide +kernel)
set_option maxRecDepth 20000 in
theorem gL_law_X12_treaties : GoodIn wsL_law (wsV RL 199 RX12 yX12_treaties wsX12_treaties) := goodIn_app (goodIn_of _ (by decide +kernel)) ggL_law_X12_treaties
set_option maxRecDepth 20000 in
theorem ggL_law_X11_leads : GoodIn wsL_law wsX11_leads := goodIn_r _ [1377, 22, 557, 519, 520, 521, 21, 522, 205, 526, 527, 2, 528, 1345, 1057, 944, 1058, 1059, 1060, 1061, 1685, 1686, 1687, 1688, 1689, 1690, 1691, 1692, 1693, 1694, 1695, 1696, 1697, 1698, 1699, 1700, 1750, 1751, 1752, 1753, 1754, 1755, 1756, 1757, 1758, 1759, 1760, 1761, 1762, 1763, 1764, 1765, 1766] (by decide +kernel) (by decide +kernel)
set_option maxRecDepth 20000 in
theorem gL_law_X11_leads : GoodIn wsL_law (wsV RL 200 RX11 yX11_leads wsX11_leads) := goodIn_app (goodIn_of _ (by decide +kernel)) ggL_law_X11_leads
set_option maxRecDepth 20000 in
theorem ggL_law_X12_leads : GoodIn wsL_law wsX12_leads := goodIn_r _ [1381, 169, 141, 545, 546, 547, 5, 548, 138, 183, 184, 185, 1354, 1355, 1356, 1701, 1702, 1703, 1704, 1705, 1706, 1707, 1708, 1709, 1710, 1711, 1712, 1713, 1714, 1715, 1716, 1717, 1718, 1719, 1720, 1721, 1722, 1723, 1724, 1725, 1726, 1727, 1728, 1729, 1730, 1731, 1732, 1733, 1734, 1735, 1736, 1737, 1738, 1739, 1740, 1741, 1742, 1743, 1744, 1745] (by decide +kernel) (by decide +kernel)
set_option maxRecDepth 20000 in
theorem gL_law_X12_leads : GoodIn wsL_law (wsV RL 203 RX12 yX12_leads wsX12_leads) := goodIn_app (goodIn_of _ (by decide +kernel)) ggL_law_X12_leads
set_option maxRecDepth 20000 in
theorem ggL_law_X11_game : GoodIn wsL_law wsX11_game := goodIn_r _ [1385, 22, 52, 519, 520, 521, 21, 522, 205, 558, 559, 2, 560, 526, 527, 528, 1386, 1387, 1388, 51, 1389, 115, 1390, 1391, 1392, 1393, 1394, 1395, 1396, 943, 944, 945, 946, 1685, 1686, 1687, 1688, 1689, 1690, 1691, 1692, 1693, 1694, 1695, 1696, 1697, 1698, 1699, 1700, 1750, 1751, 1752, 1753, 1754, 1755, 1756, 1757, 1758, 1759, 1760, 1761, 1762, 1763, 1764, 1765, 1766, 1791] (by decide +kernel) (by decide +kernel)
set_option maxRecDepth 20000 in
theorem gL_law_X11_game : GoodIn wsL_law (wsV RL 204 RX11 yX11_game wsX11_game) := goodIn_app (goodIn_of _ (by decide +kernel)) ggL_law_X11_game
set_option maxRecDepth 20000 in
theorem ggL_law_X12_game : GoodIn wsL_law wsX12_game := goodIn_r _ [1400, 169, 545, 546, 547, 5, 548, 138, 565, 566, 567, 568, 183, 184, 185, 1401, 1402, 1403, 1404, 154, 1405, 1406, 1407, 1408, 1409, 1410, 1411, 1412, 141, 727, 728, 729, 1701, 1702, 1703, 1704, 1705, 1706, 1707, 1708, 1709, 1710, 1711, 1712, 1713, 1714, 1715, 1716, 1717, 1718, 1719, 1720, 1721, 1722, 1723, 1724, 1725, 1726, 1727, 1728, 1729, 1730, 1731, 1732, 1733, 1734, 1735, 1736, 1737, 1738, 1739, 1740, 1741, 1742, 1743, 1744, 1745] (by decide +kernel) (by decide +kernel)
set_option maxRecDepth 20000 in
theorem gL_law_X12_game : GoodIn wsL_law (wsV RL 207 RX12 yX12_game wsX12_game) := goodIn_app (goodIn_of _ (by decide +kernel)) ggL_law_X12_game
