/-! ===== the law's words stand in the tables (8) ===== -/
set_option maxRecDepth 20000 in
theorem win_57 : ∀ w ∈ wsL_law0_r57, w ∈ lw_tbl := fun w h => (goodIn_r wsL_law0_r57 [2043, 2044, 2045, 2046, 689, 690, 691, 692, 437, 2047, 2048, 2049, 2050, 693, 694, 695, 696, 2055, 2056, 2057, 2058, 2059, 2061, 103] (by decide +kernel) (by decide +kernel) w h).1
set_option maxRecDepth 20000 in
theorem win_58 : ∀ w ∈ wsL_law0_r58, w ∈ lw_tbl := fun w h => (goodIn_r wsL_law0_r58 [2062, 707, 708, 709, 710, 711, 712, 713, 714, 2063, 2064, 2065, 2066, 2067, 2069, 104, 2070, 715, 716, 717, 718, 719, 2071, 2072] (by decide +kernel) (by decide +kernel) w h).1
set_option maxRecDepth 20000 in
theorem win_59 : ∀ w ∈ wsL_law0_r59, w ∈ lw_tbl := fun w h => (goodIn_r wsL_law0_r59 [2073, 2074, 720, 721, 722, 723, 2075, 2076, 2077, 2078, 1478, 1479, 1480, 1481, 1482, 1483, 1484, 445, 1485, 1486, 1487, 1488, 2079, 2080] (by decide +kernel) (by decide +kernel) w h).1
set_option maxRecDepth 20000 in
theorem win_60 : ∀ w ∈ wsL_law0_r60, w ∈ lw_tbl := fun w h => (goodIn_r wsL_law0_r60 [2081, 2082, 2087, 2089, 106, 2090, 1490, 1491, 1492, 1493, 1494, 1495, 1496, 384, 1497, 2103, 2104, 2105, 2106, 724, 2107, 2108, 2109, 2110] (by decide +kernel) (by decide +kernel) w h).1
set_option maxRecDepth 20000 in
theorem win_61 : ∀ w ∈ wsL_law0_r61, w ∈ lw_tbl := fun w h => (goodIn_r wsL_law0_r61 [1498, 1499, 1500, 1501, 1502, 1503, 1504, 488, 2127, 2128, 2129, 2130, 1505, 1506, 1507, 1508, 1509, 1510, 1511, 2131, 2132, 2133, 2134, 1512] (by decide +kernel) (by decide +kernel) w h).1
set_option maxRecDepth 20000 in
theorem win_62 : ∀ w ∈ wsL_law0_r62, w ∈ lw_tbl := fun w h => (goodIn_r wsL_law0_r62 [1513, 1514, 1515, 2143, 2144, 2145, 2146, 1516, 1517, 1518, 1519, 1520, 1521, 1522, 1523, 2155, 2156, 2157, 2158, 749, 2159, 2160, 2161, 2162] (by decide +kernel) (by decide +kernel) w h).1
set_option maxRecDepth 20000 in
theorem win_63 : ∀ w ∈ wsL_law0_r63, w ∈ lw_tbl := fun w h => (goodIn_r wsL_law0_r63 [773, 774, 775, 776, 517, 2171, 2172, 2173, 2174, 823, 824, 825, 826, 519, 2183, 2184, 2185, 2186, 1524, 1525, 1526, 1527, 1528, 1529] (by decide +kernel) (by decide +kernel) w h).1
set_option maxRecDepth 20000 in
theorem win_64 : ∀ w ∈ wsL_law0_r64, w ∈ lw_tbl := fun w h => (goodIn_r wsL_law0_r64 [1530, 1531, 1533, 58, 1534, 1536, 1538, 59, 1539, 912, 2187, 2188, 2189, 2190, 2191, 2192, 2194, 122, 2195, 2208, 2210, 126, 2211, 1540] (by decide +kernel) (by decide +kernel) w h).1
