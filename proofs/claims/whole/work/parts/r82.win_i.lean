/-! ===== the law's words stand in the tables (9) ===== -/
set_option maxRecDepth 20000 in
theorem win_65 : ∀ w ∈ wsL_law0_r65, w ∈ lw_tbl := fun w h => (goodIn_s wsL_law0_r65 [(1541, 6), (2212, 4), (827, 4), (376, 1), (2220, 5), (2226, 1), (128, 1), (2227, 1), (1547, 1)] rfl (by decide +kernel) w h).1
set_option maxRecDepth 20000 in
theorem win_66 : ∀ w ∈ wsL_law0_r66, w ∈ lw_tbl := fun w h => (goodIn_s wsL_law0_r66 [(1548, 6), (386, 1), (2228, 4), (1556, 7), (2232, 4), (2240, 1), (2242, 1)] rfl (by decide +kernel) w h).1
set_option maxRecDepth 20000 in
theorem win_67 : ∀ w ∈ wsL_law0_r67, w ∈ lw_tbl := fun w h => (goodIn_s wsL_law0_r67 [(130, 1), (2243, 1), (1564, 7), (2248, 4), (1572, 7), (2256, 4)] rfl (by decide +kernel) w h).1
set_option maxRecDepth 20000 in
theorem win_68 : ∀ w ∈ wsL_law0_r68, w ∈ lw_tbl := fun w h => (goodIn_s wsL_law0_r68 [(831, 4), (2260, 4), (1580, 7), (2264, 4), (1588, 5)] rfl (by decide +kernel) w h).1
set_option maxRecDepth 20000 in
theorem win_69 : ∀ w ∈ wsL_law0_r69, w ∈ lw_tbl := fun w h => (goodIn_s wsL_law0_r69 [(1593, 2), (2269, 4), (1596, 7), (2277, 4), (1605, 7)] rfl (by decide +kernel) w h).1
set_option maxRecDepth 20000 in
theorem win_70 : ∀ w ∈ wsL_law0_r70, w ∈ lw_tbl := fun w h => (goodIn_s wsL_law0_r70 [(2289, 4), (871, 4), (575, 1), (875, 2), (878, 1), (19, 1), (879, 2), (882, 1), (884, 1), (20, 1), (885, 2), (890, 4)] rfl (by decide +kernel) w h).1
set_option maxRecDepth 20000 in
theorem win_71 : ∀ w ∈ wsL_law0_r71, w ∈ lw_tbl := fun w h => (goodIn_s wsL_law0_r71 [(2333, 4), (1685, 2), (2337, 1), (2339, 1), (143, 1), (2340, 2), (2343, 1), (144, 1), (2344, 2), (1613, 7), (2346, 2)] rfl (by decide +kernel) w h).1
set_option maxRecDepth 20000 in
theorem win_72 : ∀ w ∈ wsL_law0_r72, w ∈ lw_tbl := fun w h => (goodIn_s wsL_law0_r72 [(2348, 2), (894, 8), (1815, 4), (902, 4), (568, 1), (1819, 4), (1663, 1)] rfl (by decide +kernel) w h).1
