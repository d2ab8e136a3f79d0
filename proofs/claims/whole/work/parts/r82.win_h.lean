/-! ===== the law's words stand in the tables (8) ===== -/
set_option maxRecDepth 20000 in
theorem win_57 : ∀ w ∈ wsL_law0_r57, w ∈ lw_tbl := fun w h => (goodIn_s wsL_law0_r57 [(2043, 4), (689, 4), (437, 1), (2047, 4), (693, 4), (2055, 5), (2061, 1), (103, 1)] rfl (by decide +kernel) w h).1
set_option maxRecDepth 20000 in
theorem win_58 : ∀ w ∈ wsL_law0_r58, w ∈ lw_tbl := fun w h => (goodIn_s wsL_law0_r58 [(2062, 1), (707, 8), (2063, 5), (2069, 1), (104, 1), (2070, 1), (715, 5), (2071, 2)] rfl (by decide +kernel) w h).1
set_option maxRecDepth 20000 in
theorem win_59 : ∀ w ∈ wsL_law0_r59, w ∈ lw_tbl := fun w h => (goodIn_s wsL_law0_r59 [(2073, 2), (720, 4), (2075, 4), (1478, 7), (445, 1), (1485, 4), (2079, 2)] rfl (by decide +kernel) w h).1
set_option maxRecDepth 20000 in
theorem win_60 : ∀ w ∈ wsL_law0_r60, w ∈ lw_tbl := fun w h => (goodIn_s wsL_law0_r60 [(2081, 2), (2087, 1), (2089, 1), (106, 1), (2090, 1), (1490, 7), (384, 1), (1497, 1), (2103, 4), (724, 1), (2107, 4)] rfl (by decide +kernel) w h).1
set_option maxRecDepth 20000 in
theorem win_61 : ∀ w ∈ wsL_law0_r61, w ∈ lw_tbl := fun w h => (goodIn_s wsL_law0_r61 [(1498, 7), (488, 1), (2127, 4), (1505, 7), (2131, 4), (1512, 1)] rfl (by decide +kernel) w h).1
set_option maxRecDepth 20000 in
theorem win_62 : ∀ w ∈ wsL_law0_r62, w ∈ lw_tbl := fun w h => (goodIn_s wsL_law0_r62 [(1513, 3), (2143, 4), (1516, 8), (2155, 4), (749, 1), (2159, 4)] rfl (by decide +kernel) w h).1
set_option maxRecDepth 20000 in
theorem win_63 : ∀ w ∈ wsL_law0_r63, w ∈ lw_tbl := fun w h => (goodIn_s wsL_law0_r63 [(773, 4), (517, 1), (2171, 4), (823, 4), (519, 1), (2183, 4), (1524, 6)] rfl (by decide +kernel) w h).1
set_option maxRecDepth 20000 in
theorem win_64 : ∀ w ∈ wsL_law0_r64, w ∈ lw_tbl := fun w h => (goodIn_s wsL_law0_r64 [(1530, 2), (1533, 1), (58, 1), (1534, 1), (1536, 1), (1538, 1), (59, 1), (1539, 1), (912, 1), (2187, 6), (2194, 1), (122, 1), (2195, 1), (2208, 1), (2210, 1), (126, 1), (2211, 1), (1540, 1)] rfl (by decide +kernel) w h).1
