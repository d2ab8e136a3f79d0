/-! ===== the law's words stand in the tables (7) ===== -/
set_option maxRecDepth 20000 in
theorem win_49 : ∀ w ∈ wsL_law0_r49, w ∈ xt_tbl := sg_mem [(1461, 1), (394, 1), (396, 1), (1462, 10), (1473, 4), (1478, 1), (1481, 1), (1483, 1), (1485, 2), (1488, 1), (28, 1)] rfl
set_option maxRecDepth 20000 in
theorem win_50 : ∀ w ∈ wsL_law0_r50, w ∈ xt_tbl := sg_mem [(1489, 15), (1522, 4), (1534, 5)] rfl
set_option maxRecDepth 20000 in
theorem win_51 : ∀ w ∈ wsL_law0_r51, w ∈ xt_tbl := sg_mem [(1540, 1), (1542, 1), (34, 1), (1543, 1), (1566, 9), (1588, 9), (1606, 2)] rfl
set_option maxRecDepth 20000 in
theorem win_52 : ∀ w ∈ wsL_law0_r52, w ∈ xt_tbl := sg_mem [(1608, 9), (1618, 1), (38, 1), (1619, 1), (1621, 10), (1632, 1), (39, 1)] rfl
set_option maxRecDepth 20000 in
theorem win_53 : ∀ w ∈ wsL_law0_r53, w ∈ xt_tbl := sg_mem [(1633, 6), (1677, 1), (1679, 1), (46, 1), (1680, 1), (418, 1), (1681, 9), (1691, 1), (1693, 1), (47, 1), (1694, 1)] rfl
set_option maxRecDepth 20000 in
theorem win_54 : ∀ w ∈ wsL_law0_r54, w ∈ xt_tbl := sg_mem [(1696, 1), (1698, 1), (48, 1), (1699, 1), (448, 1), (1700, 4), (445, 1), (1711, 1), (1704, 1), (1706, 1), (49, 1), (1707, 1), (200, 1), (444, 1), (206, 1), (229, 1), (234, 1), (239, 1), (1708, 1), (1712, 1), (1714, 1)] rfl
set_option maxRecDepth 20000 in
theorem win_55 : ∀ w ∈ wsL_law0_r55, w ∈ xt_tbl := sg_mem [(50, 1), (1715, 1), (447, 1), (1718, 1), (1720, 1), (51, 1), (1721, 8), (1730, 1), (52, 1), (1731, 1), (1821, 7)] rfl
set_option maxRecDepth 20000 in
theorem win_56 : ∀ w ∈ wsL_law0_r56, w ∈ xt_tbl := sg_mem [(446, 1), (1828, 18)] rfl
