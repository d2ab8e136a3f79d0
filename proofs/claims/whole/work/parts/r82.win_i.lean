/-! ===== the law's words stand in the tables (9) ===== -/
set_option maxRecDepth 20000 in
theorem win_65 : ∀ w ∈ wsL_law0_r65, w ∈ lw_tbl := fun w h => (goodIn_r wsL_law0_r65 [1541, 1542, 1543, 1544, 1545, 1546, 2212, 2213, 2214, 2215, 827, 828, 829, 830, 376, 2220, 2221, 2222, 2223, 2224, 2226, 128, 2227, 1547] (by decide +kernel) (by decide +kernel) w h).1
set_option maxRecDepth 20000 in
theorem win_66 : ∀ w ∈ wsL_law0_r66, w ∈ lw_tbl := fun w h => (goodIn_r wsL_law0_r66 [1548, 1549, 1550, 1551, 1552, 1553, 386, 2228, 2229, 2230, 2231, 1556, 1557, 1558, 1559, 1560, 1561, 1562, 2232, 2233, 2234, 2235, 2240, 2242] (by decide +kernel) (by decide +kernel) w h).1
set_option maxRecDepth 20000 in
theorem win_67 : ∀ w ∈ wsL_law0_r67, w ∈ lw_tbl := fun w h => (goodIn_r wsL_law0_r67 [130, 2243, 1564, 1565, 1566, 1567, 1568, 1569, 1570, 2248, 2249, 2250, 2251, 1572, 1573, 1574, 1575, 1576, 1577, 1578, 2256, 2257, 2258, 2259] (by decide +kernel) (by decide +kernel) w h).1
set_option maxRecDepth 20000 in
theorem win_68 : ∀ w ∈ wsL_law0_r68, w ∈ lw_tbl := fun w h => (goodIn_r wsL_law0_r68 [831, 832, 833, 834, 2260, 2261, 2262, 2263, 1580, 1581, 1582, 1583, 1584, 1585, 1586, 2264, 2265, 2266, 2267, 1588, 1589, 1590, 1591, 1592] (by decide +kernel) (by decide +kernel) w h).1
set_option maxRecDepth 20000 in
theorem win_69 : ∀ w ∈ wsL_law0_r69, w ∈ lw_tbl := fun w h => (goodIn_r wsL_law0_r69 [1593, 1594, 2269, 2270, 2271, 2272, 1596, 1597, 1598, 1599, 1600, 1601, 1602, 2277, 2278, 2279, 2280, 1605, 1606, 1607, 1608, 1609, 1610, 1611] (by decide +kernel) (by decide +kernel) w h).1
set_option maxRecDepth 20000 in
theorem win_70 : ∀ w ∈ wsL_law0_r70, w ∈ lw_tbl := fun w h => (goodIn_r wsL_law0_r70 [2289, 2290, 2291, 2292, 871, 872, 873, 874, 575, 875, 876, 878, 19, 879, 880, 882, 884, 20, 885, 886, 890, 891, 892, 893] (by decide +kernel) (by decide +kernel) w h).1
set_option maxRecDepth 20000 in
theorem win_71 : ∀ w ∈ wsL_law0_r71, w ∈ lw_tbl := fun w h => (goodIn_r wsL_law0_r71 [2333, 2334, 2335, 2336, 1685, 1686, 2337, 2339, 143, 2340, 2341, 2343, 144, 2344, 2345, 1613, 1614, 1615, 1616, 1617, 1618, 1619, 2346, 2347] (by decide +kernel) (by decide +kernel) w h).1
set_option maxRecDepth 20000 in
theorem win_72 : ∀ w ∈ wsL_law0_r72, w ∈ lw_tbl := fun w h => (goodIn_r wsL_law0_r72 [2348, 2349, 894, 895, 896, 897, 898, 899, 900, 901, 1815, 1816, 1817, 1818, 902, 903, 904, 905, 568, 1819, 1820, 1821, 1822, 1663] (by decide +kernel) (by decide +kernel) w h).1
