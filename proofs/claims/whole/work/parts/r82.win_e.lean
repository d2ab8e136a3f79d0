/-! ===== the law's words stand in the tables (5) ===== -/
set_option maxRecDepth 20000 in
theorem win_33 : ∀ w ∈ wsL_law0_r33, w ∈ lw_tbl := fun w h => (goodIn_s wsL_law0_r33 [(1331, 1), (765, 5), (771, 1), (9, 1), (772, 1), (835, 1), (750, 8), (759, 1), (8, 1), (760, 4)] rfl (by decide +kernel) w h).1
set_option maxRecDepth 20000 in
theorem win_34 : ∀ w ∈ wsL_law0_r34, w ∈ lw_tbl := fun w h => (goodIn_s wsL_law0_r34 [(764, 1), (1332, 1), (1334, 1), (46, 1), (1335, 1), (777, 1), (779, 1), (10, 1), (780, 1), (1336, 1), (1338, 1), (47, 1), (1339, 2), (1342, 1), (48, 1), (1343, 2), (1346, 1), (49, 1), (1347, 2), (1350, 1), (50, 1)] rfl (by decide +kernel) w h).1
set_option maxRecDepth 20000 in
theorem win_35 : ∀ w ∈ wsL_law0_r35, w ∈ lw_tbl := fun w h => (goodIn_s wsL_law0_r35 [(1351, 1), (374, 1), (1352, 1), (1354, 1), (51, 1), (1355, 5), (491, 1), (1360, 4), (490, 1), (492, 1), (1364, 2), (1367, 1), (52, 1), (1368, 1), (854, 1), (856, 1)] rfl (by decide +kernel) w h).1
set_option maxRecDepth 20000 in
theorem win_36 : ∀ w ∈ wsL_law0_r36, w ∈ lw_tbl := fun w h => (goodIn_s wsL_law0_r36 [(18, 1), (857, 1), (448, 1), (439, 1), (441, 1), (858, 6), (865, 5), (643, 2), (850, 1), (852, 1), (17, 1), (853, 1), (782, 1), (784, 1)] rfl (by decide +kernel) w h).1
set_option maxRecDepth 20000 in
theorem win_37 : ∀ w ∈ wsL_law0_r37, w ∈ lw_tbl := fun w h => (goodIn_s wsL_law0_r37 [(11, 1), (785, 5), (791, 1), (516, 1), (518, 1), (429, 1), (790, 1), (792, 1), (794, 1), (12, 1), (795, 1), (443, 1), (432, 1), (798, 2), (801, 1), (13, 1), (802, 1), (486, 1), (810, 1)] rfl (by decide +kernel) w h).1
set_option maxRecDepth 20000 in
theorem win_38 : ∀ w ∈ wsL_law0_r38, w ∈ lw_tbl := fun w h => (goodIn_s wsL_law0_r38 [(812, 1), (14, 1), (813, 1), (821, 1), (814, 1), (816, 1), (15, 1), (817, 4), (1369, 1), (1371, 1), (53, 1), (1372, 1), (514, 1), (1373, 1), (1375, 1), (54, 1), (1376, 1), (544, 1), (379, 1), (617, 2)] rfl (by decide +kernel) w h).1
set_option maxRecDepth 20000 in
theorem win_39 : ∀ w ∈ wsL_law0_r39, w ∈ lw_tbl := fun w h => (goodIn_s wsL_law0_r39 [(619, 2), (541, 1), (634, 1), (621, 1), (623, 1), (0, 1), (624, 1), (295, 1), (540, 1), (301, 1), (325, 1), (330, 1), (335, 1), (625, 1), (635, 1), (637, 1), (1, 1), (638, 1), (543, 1), (645, 1), (647, 1), (2, 1), (648, 1)] rfl (by decide +kernel) w h).1
set_option maxRecDepth 20000 in
theorem win_40 : ∀ w ∈ wsL_law0_r40, w ∈ lw_tbl := fun w h => (goodIn_s wsL_law0_r40 [(649, 1), (881, 1), (2297, 4), (1680, 2), (2301, 1), (2303, 1), (137, 1), (2304, 2), (2307, 1), (138, 1), (2308, 9)] rfl (by decide +kernel) w h).1
