/-! ===== the law's words stand in the tables (6) ===== -/
set_option maxRecDepth 20000 in
theorem win_41 : ∀ w ∈ wsL_law0_r41, w ∈ xt_tbl := sg_mem [(37, 1), (1605, 1), (1544, 1), (1546, 1), (35, 1), (1547, 2), (1552, 10), (1565, 1), (1780, 5), (1786, 1)] rfl
set_option maxRecDepth 20000 in
theorem win_42 : ∀ w ∈ wsL_law0_r42, w ∈ xt_tbl := sg_mem [(55, 1), (1787, 1), (1789, 1), (1791, 1), (56, 1), (1792, 19)] rfl
set_option maxRecDepth 20000 in
theorem win_43 : ∀ w ∈ wsL_law0_r43, w ∈ xt_tbl := sg_mem [(280, 1), (290, 1), (1813, 8), (1206, 3), (826, 1), (835, 1), (837, 1), (1341, 1), (830, 1), (1238, 6)] rfl
set_option maxRecDepth 20000 in
theorem win_44 : ∀ w ∈ wsL_law0_r44, w ∈ xt_tbl := sg_mem [(1244, 6), (1251, 1), (1254, 1), (1256, 1), (1258, 9), (1286, 1), (1268, 1), (1270, 1), (1273, 1), (1275, 1), (1277, 1)] rfl
set_option maxRecDepth 20000 in
theorem win_45 : ∀ w ∈ wsL_law0_r45, w ∈ xt_tbl := sg_mem [(1278, 2), (92, 1), (1280, 6), (1319, 4), (1327, 4), (1336, 1), (1331, 5), (1337, 1)] rfl
set_option maxRecDepth 20000 in
theorem win_46 : ∀ w ∈ wsL_law0_r46, w ∈ xt_tbl := sg_mem [(1338, 3), (1342, 5), (1348, 1), (22, 1), (1349, 2), (1352, 1), (23, 1), (1353, 1), (1371, 4), (288, 1), (1375, 4)] rfl
set_option maxRecDepth 20000 in
theorem win_47 : ∀ w ∈ wsL_law0_r47, w ∈ xt_tbl := sg_mem [(1379, 24)] rfl
set_option maxRecDepth 20000 in
theorem win_48 : ∀ w ∈ wsL_law0_r48, w ∈ xt_tbl := sg_mem [(1403, 6), (398, 1), (1430, 5), (1450, 1), (1452, 1), (27, 1), (1453, 5), (395, 1), (1458, 3)] rfl
