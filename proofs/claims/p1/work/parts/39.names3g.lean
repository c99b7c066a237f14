set_option maxRecDepth 20000 in
theorem ggL_law_X11_plays : GoodIn wsL_law wsX11_plays := goodIn_r _ [1416, 22, 52, 519, 520, 521, 21, 522, 205, 558, 559, 2, 560, 526, 527, 528, 1386, 1387, 1388, 51, 1389, 115, 1390, 1391, 1392, 1393, 1394, 1395, 1396, 943, 944, 945, 946, 1685, 1686, 1687, 1688, 1689, 1690, 1691, 1692, 1693, 1694, 1695, 1696, 1697, 1698, 1699, 1700, 1750, 1751, 1752, 1753, 1754, 1755, 1756, 1757, 1758, 1759, 1760, 1761, 1762, 1763, 1764, 1765, 1766, 1791] (by decide +kernel) (by decide +kernel)
set_option maxRecDepth 20000 in
theorem gL_law_X11_plays : GoodIn wsL_law (wsV RL 208 RX11 yX11_plays wsX11_plays) := goodIn_app (goodIn_of _ (by decide +kernel)) ggL_law_X11_plays
set_option maxRecDepth 20000 in
theorem ggL_law_X12_plays : GoodIn wsL_law wsX12_plays := goodIn_r _ [1420, 169, 545, 546, 547, 5, 548, 138, 565, 566, 567, 568, 183, 184, 185, 1401, 1402, 1403, 1404, 154, 1409, 1410, 1411, 1412, 141, 727, 728, 729, 1405, 1406, 1407, 1408, 1701, 1702, 1703, 1704, 1705, 1706, 1707, 1708, 1709, 1710, 1711, 1712, 1713, 1714, 1715, 1716, 1717, 1718, 1719, 1720, 1721, 1722, 1723, 1724, 1725, 1726, 1727, 1728, 1729, 1730, 1731, 1732, 1733, 1734, 1735, 1736, 1737, 1738, 1739, 1740, 1741, 1742, 1743, 1744, 1745] (by decide +kernel) (by decide +kernel)
set_option maxRecDepth 20000 in
theorem gL_law_X12_plays : GoodIn wsL_law (wsV RL 211 RX12 yX12_plays wsX12_plays) := goodIn_app (goodIn_of _ (by decide +kernel)) ggL_law_X12_plays
set_option maxRecDepth 20000 in
theorem ggL_law_X11_dry : GoodIn wsL_law wsX11_dry := goodIn_r _ [1424, 1425, 1426, 1427, 2, 1428, 22, 1280, 1429, 519, 520, 521, 21, 522, 205, 526, 527, 528, 1430, 1431, 1432, 1433, 1434, 1435, 833, 834, 835, 1685, 1686, 1687, 1688, 1689, 1690, 1691, 1692, 1693, 1694, 1695, 1696, 1697, 1698, 1699, 1700, 1750, 1751, 1752, 1753, 1754, 1755, 1756, 1757, 1758, 1759, 1760, 1761, 1762, 1763, 1764, 1765, 1766] (by decide +kernel) (by decide +kernel)
set_option maxRecDepth 20000 in
theorem gL_law_X11_dry : GoodIn wsL_law (wsV RL 212 RX11 yX11_dry wsX11_dry) := goodIn_app (goodIn_of _ (by decide +kernel)) ggL_law_X11_dry
set_option maxRecDepth 20000 in
theorem ggL_law_X12_dry : GoodIn wsL_law wsX12_dry := goodIn_r _ [1439, 169, 1440, 139, 1310, 1441, 1442, 1443, 5, 1444, 1445, 545, 546, 547, 548, 138, 183, 184, 185, 1446, 1447, 1448, 1449, 1450, 1451, 1319, 1320, 1321, 1701, 1702, 1703, 1704, 1705, 1706, 1707, 1708, 1709, 1710, 1711, 1712, 1713, 1714, 1715, 1716, 1717, 1718, 1719, 1720, 1721, 1722, 1723, 1724, 1725, 1726, 1727, 1728, 1729, 1730, 1731, 1732, 1733, 1734, 1735, 1736, 1737, 1738, 1739, 1740, 1741, 1742, 1743, 1744, 1745] (by decide +kernel) (by decide +kernel)
set_option maxRecDepth 20000 in
theorem gL_law_X12_dry : GoodIn wsL_law (wsV RL 215 RX12 yX12_dry wsX12_dry) := goodIn_app (goodIn_of _ (by decide +kernel)) ggL_law_X12_dry
set_option maxRecDepth 20000 in
theorem ggL_law_X11_wet : GoodIn wsL_law wsX11_wet := goodIn_r _ [1428, 22, 1280, 1429, 519, 520, 521, 21, 522, 205, 526, 527, 2, 528, 1430, 1431, 1432, 1433, 1434, 1435, 833, 834, 835, 1685, 1686, 1687, 1688, 1689, 1690, 1691, 1692, 1693, 1694, 1695, 1696, 1697, 1698, 1699, 1700, 1750, 1751, 1752, 1753, 1754, 1755, 1756, 1757, 1758, 1759, 1760, 1761, 1762, 1763, 1764, 1765, 1766] (by decide +kernel) (by decide +kernel)
set_option maxRecDepth 20000 in
theorem gL_law_X11_wet : GoodIn wsL_law (wsV RL 216 RX11 yX11_wet wsX11_wet) := goodIn_app (goodIn_of _ (by decide +kernel)) ggL_law_X11_wet
set_option maxRecDepth 20000 in
theorem ggL_law_X12_wet : GoodIn wsL_law wsX12_wet := goodIn_r _ [1456, 169, 1310, 139, 1440, 1441, 1442, 1443, 5, 1444, 1445, 545, 546, 547, 548, 138, 183, 184, 185, 1446, 1447, 1448, 1449, 1450, 1451, 1319, 1320, 1321, 1701, 1702, 1703, 1704, 1705, 1706, 1707, 1708, 1709, 1710, 1711, 1712, 1713, 1714, 1715, 1716, 1717, 1718, 1719, 1720, 1721, 1722, 1723, 1724, 1725, 1726, 1727, 1728, 1729, 1730, 1731, 1732, 1733, 1734, 1735, 1736, 1737, 1738, 1739, 1740, 1741, 1742, 1743, 1744, 1745] (by decide +kernel) (by decide +kernel)
set_option maxRecDepth 20000 in
theorem gL_law_X12_wet : GoodIn wsL_law (wsV RL 220 RX12 yX12_wet wsX12_wet) := goodIn_app (goodIn_of _ (by decide +kernel)) ggL_law_X12_wet
set_option maxRecDepth 20000 in
theorem ggL_law_X11_drawn : GoodIn wsL_law wsX11_drawn := goodIn_r _ [1460, 56, 22, 1461, 1462, 1463, 1464, 1465, 1466, 1467, 2, 1468, 1469, 519, 520, 521, 21, 522, 205, 526, 527, 528, 1470, 1471, 1472, 55, 1473, 1474, 1475, 1476, 1477, 1478, 120, 1479, 1480, 1481, 1482, 1483, 1484, 1485, 119, 1486, 1487, 1488, 1489, 1490, 1491, 1492, 1493, 1494, 1495, 1496, 1497, 1498, 1499, 1500, 534, 535, 536, 77, 632, 633, 634, 635, 636, 637, 1501, 1502, 1503, 1504, 1505, 1506, 708, 709, 710, 711, 712, 713, 714, 80, 1685, 1686, 1687, 1688, 1689, 1690, 1691, 1692, 1693, 1694, 1695, 1696, 1697, 1698, 1699, 1700, 1792, 1793, 1794, 1795, 1796, 1797, 1798, 1750, 1751, 1752, 1753, 1754, 1755, 1756, 1757, 1758, 1759, 1760, 1761, 1762, 1763, 1764, 1765, 1766] (by decide +kernel) (by decide +kernel)
set_option maxRecDepth 20000 in
theorem gL_law_X11_drawn : GoodIn wsL_law (wsV RL 221 RX11 yX11_drawn wsX11_drawn) := goodIn_app (goodIn_of _ (by decide +kernel)) ggL_law_X11_drawn
set_option maxRecDepth 20000 in
theorem ggL_law_X12_drawn : GoodIn wsL_law wsX12_drawn := goodIn_r _ [1510, 169, 582, 1511, 1512, 1513, 1514, 1515, 1516, 1517, 5, 1518, 1519, 1440, 545, 546, 547, 548, 138, 183, 184, 185, 1520, 1521, 1522, 1523, 1524, 139, 151, 140, 1525, 1526, 1527, 1528, 1529, 1530, 1531, 1532, 549, 550, 551, 552, 1533, 1534, 1535, 1536, 719, 720, 721, 722, 683, 684, 685, 686, 723, 724, 725, 726, 141, 727, 728, 729, 1701, 1702, 1703, 1704, 1705, 1706, 1707, 1708, 1709, 1710, 1711, 1712, 1713, 1714, 1715, 1716, 1717, 1718, 1719, 1720, 1721, 1722, 1723, 1724, 1725, 1726, 1727, 1728, 1729, 1730, 1731, 1732, 1733, 1734, 1735, 1736, 1737, 1738, 1739, 1740, 1741, 1742, 1743, 1744, 1745] (by decide +kernel) (by decide +kernel)
set_option maxRecDepth 20000 in
theorem gL_law_X12_drawn : GoodIn wsL_law (wsV RL 224 RX12 yX12_drawn wsX12_drawn) := goodIn_app (goodIn_of _ (by decide +kernel)) ggL_law_X12_drawn
set_option maxRecDepth 20000 in
theorem ggL_law_X11_nights : GoodIn wsL_law wsX11_nights := goodIn_r _ [1540, 56, 22, 1461, 1465, 1466, 1467, 2, 1468, 1469, 519, 520, 521, 21, 522, 205, 1470, 1471, 1472, 55, 1473, 1474, 1475, 1476, 1477, 1478, 120, 1479, 1480, 1481, 1482, 1483, 1484, 1485, 119, 1486, 1487, 1488, 1489, 1490, 1491, 1492, 1493, 1494, 1495, 1496, 1497, 1498, 1499, 1500, 534, 535, 536, 77, 632, 633, 634, 635, 636, 637, 1501, 1502, 1503, 1504, 1505, 1506, 708, 709, 710, 711, 712, 713, 714, 80, 1685, 1686, 1687, 1688, 1689, 1690, 1691, 1692, 1693, 1694, 1695, 1696, 1697, 1698, 1699, 1700, 1792, 1793, 1794, 1795, 1796, 1797, 1798, 1750, 1751, 1752, 1753, 1754, 1755, 1756, 1757, 1758, 1759, 1760, 1761, 1762, 1763, 1764, 1765, 1766] (by decide +kernel) (by decide +kernel)
set_option maxRecDepth 20000 in
theorem gL_law_X11_nights : GoodIn wsL_law (wsV RL 225 RX11 yX11_nights wsX11_nights) := goodIn_app (goodIn_of _ (by decide +kernel)) ggL_law_X11_nights
set_option maxRecDepth 20000 in
theorem ggL_law_X12_nights : GoodIn wsL_law wsX12_nights := goodIn_r _ [1544, 169, 1545, 1511, 1515, 1516, 1517, 5, 1518, 1519, 1440, 545, 546, 547, 548, 138, 183, 184, 185, 1520, 1521, 1522, 1523, 1524, 1512, 1513, 1514, 139, 151, 140, 1525, 1526, 1527, 1528, 1529, 1530, 1531, 1532, 549, 550, 551, 552, 1533, 1534, 1535, 1536, 719, 720, 721, 722, 683, 684, 685, 686, 723, 724, 725, 726, 141, 727, 728, 729, 1701, 1702, 1703, 1704, 1705, 1706, 1707, 1708, 1709, 1710, 1711, 1712, 1713, 1714, 1715, 1716, 1717, 1718, 1719, 1720, 1721, 1722, 1723, 1724, 1725, 1726, 1727, 1728, 1729, 1730, 1731, 1732, 1733, 1734, 1735, 1736, 1737, 1738, 1739, 1740, 1741, 1742, 1743, 1744, 1745] (by decide +kernel) (by decide +kernel)
set_option maxRecDepth 20000 in
theorem gL_law_X12_nights : GoodIn wsL_law (wsV RL 228 RX12 yX12_nights wsX12_nights) := goodIn_app (goodIn_of _ (by decide +kernel)) ggL_law_X12_nights
set_option maxRecDepth 20000 in
theorem ggL_law_X11_stumble : GoodIn wsL_law wsX11_stumble := goodIn_r _ [1549, 22, 814, 1550, 32, 603, 604, 605, 2, 606, 519, 520, 521, 21, 522, 205, 523, 524, 525, 526, 527, 528, 588, 589, 590, 558, 559, 560, 1551, 339, 340, 341, 206, 81, 1552, 1553, 1554, 1555, 209, 85, 1556, 343, 344, 345, 1685, 1686, 1687, 1688, 1689, 1690, 1691, 1692, 1693, 1694, 1695, 1696, 1697, 1698, 1699, 1700, 1750, 1751, 1752, 1753, 1754, 1755, 1756, 1757, 1758, 1759, 1760, 1761, 1762, 1763, 1764, 1765, 1766] (by decide +kernel) (by decide +kernel)
set_option maxRecDepth 20000 in
theorem gL_law_X11_stumble : GoodIn wsL_law (wsV RL 229 RX11 yX11_stumble wsX11_stumble) := goodIn_app (goodIn_of _ (by decide +kernel)) ggL_law_X11_stumble
set_option maxRecDepth 20000 in
theorem ggL_law_X12_stumble : GoodIn wsL_law wsX12_stumble := goodIn_r _ [1560, 169, 1445, 139, 142, 541, 542, 543, 5, 544, 545, 546, 547, 548, 138, 183, 184, 185, 595, 596, 597, 598, 565, 566, 567, 568, 463, 464, 465, 466, 1561, 1562, 1563, 1564, 147, 1701, 1702, 1703, 1704, 1705, 1706, 1707, 1708, 1709, 1710, 1711, 1712, 1713, 1714, 1715, 1716, 1717, 1718, 1719, 1720, 1721, 1722, 1723, 1724, 1725, 1726, 1727, 1728, 1729, 1730, 1731, 1732, 1733, 1734, 1735, 1736, 1737, 1738, 1739, 1740, 1741, 1742, 1743, 1744, 1745] (by decide +kernel) (by decide +kernel)
set_option maxRecDepth 20000 in
theorem gL_law_X12_stumble : GoodIn wsL_law (wsV RL 233 RX12 yX12_stumble wsX12_stumble) := goodIn_app (goodIn_of _ (by decide +kernel)) ggL_law_X12_stumble
set_option maxRecDepth 20000 in
theorem ggL_law_X11_mud : GoodIn wsL_law wsX11_mud := goodIn_r _ [1568, 22, 1550, 587, 32, 519, 520, 521, 21, 522, 205, 588, 589, 2, 590, 526, 527, 528, 1552, 1553, 1554, 1555, 209, 85, 1685, 1686, 1687, 1688, 1689, 1690, 1691, 1692, 1693, 1694, 1695, 1696, 1697, 1698, 1699, 1700, 1750, 1751, 1752, 1753, 1754, 1755, 1756, 1757, 1758, 1759, 1760, 1761, 1762, 1763, 1764, 1765, 1766] (by decide +kernel) (by decide +kernel)
set_option maxRecDepth 20000 in
theorem gL_law_X11_mud : GoodIn wsL_law (wsV RL 234 RX11 yX11_mud wsX11_mud) := goodIn_app (goodIn_of _ (by decide +kernel)) ggL_law_X11_mud
set_option maxRecDepth 20000 in
theorem ggL_law_X12_mud : GoodIn wsL_law wsX12_mud := goodIn_r _ [1572, 169, 139, 144, 545, 546, 547, 5, 548, 138, 595, 596, 597, 598, 183, 184, 185, 1561, 1562, 1563, 1564, 147, 1701, 1702, 1703, 1704, 1705, 1706, 1707, 1708, 1709, 1710, 1711, 1712, 1713, 1714, 1715, 1716, 1717, 1718, 1719, 1720, 1721, 1722, 1723, 1724, 1725, 1726, 1727, 1728, 1729, 1730, 1731, 1732, 1733, 1734, 1735, 1736, 1737, 1738, 1739, 1740, 1741, 1742, 1743, 1744, 1745] (by decide +kernel) (by decide +kernel)
set_option maxRecDepth 20000 in
theorem gL_law_X12_mud : GoodIn wsL_law (wsV RL 237 RX12 yX12_mud wsX12_mud) := goodIn_app (goodIn_of _ (by decide +kernel)) ggL_law_X12_mud
set_option maxRecDepth 20000 in
theorem ggL_law_X11_teach : GoodIn wsL_law wsX11_teach := goodIn_r _ [1576, 22, 1550, 1577, 32, 519, 520, 521, 21, 522, 205, 523, 524, 2, 525, 526, 527, 528, 529, 530, 531, 532, 78, 558, 559, 560, 1552, 1553, 1554, 1555, 209, 85, 1685, 1686, 1687, 1688, 1689, 1690, 1691, 1692, 1693, 1694, 1695, 1696, 1697, 1698, 1699, 1700, 1750, 1751, 1752, 1753, 1754, 1755, 1756, 1757, 1758, 1759, 1760, 1761, 1762, 1763, 1764, 1765, 1766] (by decide +kernel) (by decide +kernel)
set_option maxRecDepth 20000 in
theorem gL_law_X11_teach : GoodIn wsL_law (wsV RL 238 RX11 yX11_teach wsX11_teach) := goodIn_app (goodIn_of _ (by decide +kernel)) ggL_law_X11_teach
set_option maxRecDepth 20000 in
theorem ggL_law_X12_teach : GoodIn wsL_law wsX12_teach := goodIn_r _ [1581, 169, 139, 140, 541, 542, 543, 5, 544, 545, 546, 547, 548, 138, 183, 184, 185, 549, 550, 551, 552, 565, 566, 567, 568, 1561, 1562, 1563, 1564, 147, 1701, 1702, 1703, 1704, 1705, 1706, 1707, 1708, 1709, 1710, 1711, 1712, 1713, 1714, 1715, 1716, 1717, 1718, 1719, 1720, 1721, 1722, 1723, 1724, 1725, 1726, 1727, 1728, 1729, 1730, 1731, 1732, 1733, 1734, 1735, 1736, 1737, 1738, 1739, 1740, 1741, 1742, 1743, 1744, 1745] (by decide +kernel) (by decide +kernel)
set_option maxRecDepth 20000 in
theorem gL_law_X12_teach : GoodIn wsL_law (wsV RL 241 RX12 yX12_teach wsX12_teach) := goodIn_app (goodIn_of _ (by decide +kernel)) ggL_law_X12_teach
