/-! ===== the law's words stand in the tables (1) ===== -/
set_option maxRecDepth 20000 in
theorem win_1 : ∀ w ∈ wsL_law0_r1, w ∈ lw_tbl := fun w h => (goodIn_r wsL_law0_r1 [173, 174, 146, 1629, 1630, 158, 363, 175, 176, 177, 178, 179, 180, 181, 182, 147, 558, 236, 237, 148, 559, 246, 247, 149] (by decide +kernel) (by decide +kernel) w h).1
set_option maxRecDepth 20000 in
theorem win_2 : ∀ w ∈ wsL_law0_r2, w ∈ lw_tbl := fun w h => (goodIn_r wsL_law0_r2 [560, 256, 257, 150, 561, 287, 288, 151, 562, 563, 564, 364, 365, 152, 565, 566, 567, 402, 403, 153, 569, 422, 423, 154] (by decide +kernel) (by decide +kernel) w h).1
set_option maxRecDepth 20000 in
theorem win_3 : ∀ w ∈ wsL_law0_r3, w ∈ lw_tbl := fun w h => (goodIn_r wsL_law0_r3 [570, 479, 480, 155, 571, 506, 507, 156, 572, 531, 532, 157, 573, 235, 574, 184, 185, 186, 187, 206, 208, 239, 240, 241] (by decide +kernel) (by decide +kernel) w h).1
set_option maxRecDepth 20000 in
theorem win_4 : ∀ w ∈ wsL_law0_r4, w ∈ lw_tbl := fun w h => (goodIn_r wsL_law0_r4 [249, 250, 251, 252, 259, 260, 261, 262, 264, 266, 268, 290, 291, 292, 305, 319, 320, 323, 328, 333, 367, 368, 369, 377] (by decide +kernel) (by decide +kernel) w h).1
set_option maxRecDepth 20000 in
theorem win_5 : ∀ w ∈ wsL_law0_r5, w ∈ lw_tbl := fun w h => (goodIn_r wsL_law0_r5 [380, 381, 385, 404, 405, 406, 407, 408, 411, 425, 426, 427, 440, 442, 446, 449, 451, 453, 482, 483, 484, 485, 487, 489] (by decide +kernel) (by decide +kernel) w h).1
set_option maxRecDepth 20000 in
theorem win_6 : ∀ w ∈ wsL_law0_r6, w ∈ lw_tbl := fun w h => (goodIn_r wsL_law0_r6 [509, 510, 511, 512, 513, 515, 534, 535, 536, 537, 538, 539, 1631, 1632, 1633, 1634, 1640, 1648, 1649, 1651, 1652, 1654, 1655, 1656] (by decide +kernel) (by decide +kernel) w h).1
set_option maxRecDepth 20000 in
theorem win_7 : ∀ w ∈ wsL_law0_r7, w ∈ lw_tbl := fun w h => (goodIn_r wsL_law0_r7 [1657, 1658, 1659, 1660, 1661, 1667, 1668, 1669, 1670, 1671, 1672, 1675, 1676, 1677, 1678, 1679, 1684, 1635, 1637, 60, 1638, 913, 914, 145] (by decide +kernel) (by decide +kernel) w h).1
set_option maxRecDepth 20000 in
theorem win_8 : ∀ w ∈ wsL_law0_r8, w ∈ lw_tbl := fun w h => (goodIn_r wsL_law0_r8 [915, 916, 917, 918, 919, 920, 921, 162, 188, 989, 990, 991, 992, 189, 640, 641, 1788, 1789, 1790, 1791, 1641, 1792, 1794, 61] (by decide +kernel) (by decide +kernel) w h).1
