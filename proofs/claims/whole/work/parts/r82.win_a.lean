/-! ===== the law's words stand in the tables (1) ===== -/
set_option maxRecDepth 20000 in
theorem win_1 : ∀ w ∈ wsL_law0_r1, w ∈ lw_tbl := fun w h => (goodIn_s wsL_law0_r1 [(173, 2), (146, 1), (1629, 2), (158, 1), (363, 1), (175, 8), (147, 1), (558, 1), (236, 2), (148, 1), (559, 1), (246, 2), (149, 1)] rfl (by decide +kernel) w h).1
set_option maxRecDepth 20000 in
theorem win_2 : ∀ w ∈ wsL_law0_r2, w ∈ lw_tbl := fun w h => (goodIn_s wsL_law0_r2 [(560, 1), (256, 2), (150, 1), (561, 1), (287, 2), (151, 1), (562, 3), (364, 2), (152, 1), (565, 3), (402, 2), (153, 1), (569, 1), (422, 2), (154, 1)] rfl (by decide +kernel) w h).1
set_option maxRecDepth 20000 in
theorem win_3 : ∀ w ∈ wsL_law0_r3, w ∈ lw_tbl := fun w h => (goodIn_s wsL_law0_r3 [(570, 1), (479, 2), (155, 1), (571, 1), (506, 2), (156, 1), (572, 1), (531, 2), (157, 1), (573, 1), (235, 1), (574, 1), (184, 4), (206, 1), (208, 1), (239, 3)] rfl (by decide +kernel) w h).1
set_option maxRecDepth 20000 in
theorem win_4 : ∀ w ∈ wsL_law0_r4, w ∈ lw_tbl := fun w h => (goodIn_s wsL_law0_r4 [(249, 4), (259, 4), (264, 1), (266, 1), (268, 1), (290, 3), (305, 1), (319, 2), (323, 1), (328, 1), (333, 1), (367, 3), (377, 1)] rfl (by decide +kernel) w h).1
set_option maxRecDepth 20000 in
theorem win_5 : ∀ w ∈ wsL_law0_r5, w ∈ lw_tbl := fun w h => (goodIn_s wsL_law0_r5 [(380, 2), (385, 1), (404, 5), (411, 1), (425, 3), (440, 1), (442, 1), (446, 1), (449, 1), (451, 1), (453, 1), (482, 4), (487, 1), (489, 1)] rfl (by decide +kernel) w h).1
set_option maxRecDepth 20000 in
theorem win_6 : ∀ w ∈ wsL_law0_r6, w ∈ lw_tbl := fun w h => (goodIn_s wsL_law0_r6 [(509, 5), (515, 1), (534, 6), (1631, 4), (1640, 1), (1648, 2), (1651, 2), (1654, 3)] rfl (by decide +kernel) w h).1
set_option maxRecDepth 20000 in
theorem win_7 : ∀ w ∈ wsL_law0_r7, w ∈ lw_tbl := fun w h => (goodIn_s wsL_law0_r7 [(1657, 5), (1667, 6), (1675, 5), (1684, 1), (1635, 1), (1637, 1), (60, 1), (1638, 1), (913, 2), (145, 1)] rfl (by decide +kernel) w h).1
set_option maxRecDepth 20000 in
theorem win_8 : ∀ w ∈ wsL_law0_r8, w ∈ lw_tbl := fun w h => (goodIn_s wsL_law0_r8 [(915, 7), (162, 1), (188, 1), (989, 4), (189, 1), (640, 2), (1788, 4), (1641, 1), (1792, 1), (1794, 1), (61, 1)] rfl (by decide +kernel) w h).1
