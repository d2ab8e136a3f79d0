/-! ===== the law's words stand in the tables (6) ===== -/
set_option maxRecDepth 20000 in
theorem win_41 : ∀ w ∈ wsL_law0_r41, w ∈ lw_tbl := fun w h => (goodIn_r wsL_law0_r41 [2317, 2319, 139, 2320, 2321, 2323, 140, 2324, 2325, 2327, 141, 2328, 1683, 2329, 2331, 142, 2332, 2268, 2111, 2113, 110, 2114, 2115, 2117] (by decide +kernel) (by decide +kernel) w h).1
set_option maxRecDepth 20000 in
theorem win_42 : ∀ w ∈ wsL_law0_r42, w ∈ lw_tbl := fun w h => (goodIn_r wsL_law0_r42 [111, 2118, 1946, 1948, 87, 1949, 2119, 2121, 112, 2122, 2123, 2125, 113, 2126, 2091, 2093, 107, 2094, 2099, 2101, 109, 2102, 2095, 2097] (by decide +kernel) (by decide +kernel) w h).1
set_option maxRecDepth 20000 in
theorem win_43 : ∀ w ∈ wsL_law0_r43, w ∈ lw_tbl := fun w h => (goodIn_r wsL_law0_r43 [108, 2098, 1934, 1936, 84, 1937, 1938, 1940, 85, 1941, 2135, 2137, 114, 2138, 2083, 2085, 105, 2086, 2022, 2024, 97, 2025, 2147, 2149] (by decide +kernel) (by decide +kernel) w h).1
set_option maxRecDepth 20000 in
theorem win_44 : ∀ w ∈ wsL_law0_r44, w ∈ lw_tbl := fun w h => (goodIn_r wsL_law0_r44 [116, 2150, 2151, 2153, 117, 2154, 2027, 2029, 98, 2030, 2051, 2053, 102, 2054, 2031, 2033, 99, 2034, 2163, 2165, 118, 2166, 2167, 2169] (by decide +kernel) (by decide +kernel) w h).1
set_option maxRecDepth 20000 in
theorem win_45 : ∀ w ∈ wsL_law0_r45, w ∈ lw_tbl := fun w h => (goodIn_r wsL_law0_r45 [119, 2170, 2139, 2141, 115, 2142, 2281, 2283, 134, 2284, 2236, 2238, 129, 2239, 2252, 2254, 132, 2255, 2200, 2202, 124, 2203, 2204, 2206] (by decide +kernel) (by decide +kernel) w h).1
set_option maxRecDepth 20000 in
theorem win_46 : ∀ w ∈ wsL_law0_r46, w ∈ lw_tbl := fun w h => (goodIn_r wsL_law0_r46 [125, 2207, 1823, 1825, 63, 1826, 1827, 1829, 64, 1830, 2196, 2198, 123, 2199, 2216, 2218, 127, 2219, 2273, 2275, 133, 2276, 2175, 2177] (by decide +kernel) (by decide +kernel) w h).1
set_option maxRecDepth 20000 in
theorem win_47 : ∀ w ∈ wsL_law0_r47, w ∈ lw_tbl := fun w h => (goodIn_r wsL_law0_r47 [120, 2178, 1673, 1674, 2179, 2181, 121, 2182, 2285, 2287, 135, 2288, 1666, 1998, 2000, 95, 2001, 1665, 1954, 1956, 89, 1957, 2002, 2004] (by decide +kernel) (by decide +kernel) w h).1
set_option maxRecDepth 20000 in
theorem win_48 : ∀ w ∈ wsL_law0_r48, w ∈ lw_tbl := fun w h => (goodIn_r wsL_law0_r48 [96, 2005, 2293, 2295, 136, 2296, 2244, 2246, 131, 2247, 1377, 1378, 1379, 1380, 1381, 1382, 1383, 205, 207, 209, 1810, 1811, 1812, 1813] (by decide +kernel) (by decide +kernel) w h).1
