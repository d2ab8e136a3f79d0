/-! ===== the law's words stand in the tables (7) ===== -/
set_option maxRecDepth 20000 in
theorem win_49 : ∀ w ∈ wsL_law0_r49, w ∈ lw_tbl := fun w h => (goodIn_s wsL_law0_r49 [(1814, 1), (1385, 7), (304, 1), (311, 1), (316, 1), (318, 1), (414, 1), (1392, 5), (1407, 1), (1397, 1), (1399, 1), (55, 1), (1400, 2)] rfl (by decide +kernel) w h).1
set_option maxRecDepth 20000 in
theorem win_50 : ∀ w ∈ wsL_law0_r50, w ∈ lw_tbl := fun w h => (goodIn_s wsL_law0_r50 [(1402, 1), (172, 1), (1403, 4), (1929, 5), (1942, 1), (1944, 1), (86, 1), (1945, 1), (1950, 1), (1952, 1), (88, 1), (1953, 1), (1958, 1), (1960, 1), (90, 1), (1961, 2)] rfl (by decide +kernel) w h).1
set_option maxRecDepth 20000 in
theorem win_51 : ∀ w ∈ wsL_law0_r51, w ∈ lw_tbl := fun w h => (goodIn_s wsL_law0_r51 [(1963, 2), (1409, 8), (322, 1), (1417, 1), (1419, 1), (56, 1), (1420, 1), (1965, 5), (1971, 1), (91, 1), (1972, 1), (1422, 1)] rfl (by decide +kernel) w h).1
set_option maxRecDepth 20000 in
theorem win_52 : ∀ w ∈ wsL_law0_r52, w ∈ lw_tbl := fun w h => (goodIn_s wsL_law0_r52 [(1423, 6), (327, 1), (332, 1), (337, 1), (697, 1), (699, 1), (5, 1), (700, 1), (1973, 4), (1981, 1), (1977, 1), (1979, 1), (92, 1), (1980, 1), (1982, 1), (1984, 1)] rfl (by decide +kernel) w h).1
set_option maxRecDepth 20000 in
theorem win_53 : ∀ w ∈ wsL_law0_r53, w ∈ lw_tbl := fun w h => (goodIn_s wsL_law0_r53 [(93, 1), (1985, 1), (1431, 8), (1986, 5), (1992, 1), (94, 1), (1993, 1), (1439, 6)] rfl (by decide +kernel) w h).1
set_option maxRecDepth 20000 in
theorem win_54 : ∀ w ∈ wsL_law0_r54, w ∈ lw_tbl := fun w h => (goodIn_s wsL_law0_r54 [(1445, 1), (542, 1), (1994, 4), (1446, 7), (2006, 4), (613, 4), (2010, 3)] rfl (by decide +kernel) w h).1
set_option maxRecDepth 20000 in
theorem win_55 : ∀ w ∈ wsL_law0_r55, w ∈ lw_tbl := fun w h => (goodIn_s wsL_law0_r55 [(2013, 1), (1453, 7), (2014, 4), (1460, 7), (452, 1), (450, 1), (1467, 3)] rfl (by decide +kernel) w h).1
set_option maxRecDepth 20000 in
theorem win_56 : ∀ w ∈ wsL_law0_r56, w ∈ lw_tbl := fun w h => (goodIn_s wsL_law0_r56 [(1470, 2), (1473, 1), (1475, 1), (57, 1), (1476, 1), (702, 1), (2018, 4), (2026, 1), (2035, 1), (2037, 1), (100, 1), (2038, 2), (2041, 1), (101, 1), (2042, 1), (652, 4)] rfl (by decide +kernel) w h).1
