/-! ===== the law's words stand in the tables (3) ===== -/
set_option maxRecDepth 20000 in
theorem win_17 : ∀ w ∈ wsL_law0_r17, w ∈ lw_tbl := fun w h => (goodIn_s wsL_law0_r17 [(1157, 3), (703, 3), (1160, 4), (1165, 1), (1167, 1), (27, 1), (1168, 1), (307, 1), (1169, 1), (1171, 1), (28, 1), (1172, 1), (1174, 1), (1176, 1), (29, 1), (1177, 1), (310, 1)] rfl (by decide +kernel) w h).1
set_option maxRecDepth 20000 in
theorem win_18 : ∀ w ∈ wsL_law0_r18, w ∈ lw_tbl := fun w h => (goodIn_s wsL_law0_r18 [(1179, 1), (1181, 1), (30, 1), (1182, 1), (314, 1), (906, 5), (809, 1), (808, 1), (168, 1), (804, 3), (650, 1), (169, 1), (651, 1), (807, 1), (1184, 4)] rfl (by decide +kernel) w h).1
set_option maxRecDepth 20000 in
theorem win_19 : ∀ w ∈ wsL_law0_r19, w ∈ lw_tbl := fun w h => (goodIn_s wsL_law0_r19 [(370, 1), (312, 1), (372, 1), (375, 1), (294, 1), (1188, 1), (626, 1), (170, 1), (627, 1), (1189, 4), (413, 1), (1835, 4), (1664, 1), (1645, 1), (1662, 1), (1839, 1), (1841, 1), (65, 1)] rfl (by decide +kernel) w h).1
set_option maxRecDepth 20000 in
theorem win_20 : ∀ w ∈ wsL_law0_r20, w ∈ lw_tbl := fun w h => (goodIn_s wsL_law0_r20 [(1842, 1), (1642, 2), (1647, 1), (1682, 1), (1843, 1), (1845, 1), (66, 1), (1846, 1), (1644, 1), (1653, 1), (1646, 1), (1847, 1), (1849, 1), (67, 1), (1850, 8), (1859, 1)] rfl (by decide +kernel) w h).1
set_option maxRecDepth 20000 in
theorem win_21 : ∀ w ∈ wsL_law0_r21, w ∈ lw_tbl := fun w h => (goodIn_s wsL_law0_r21 [(68, 1), (1860, 2), (1863, 1), (69, 1), (1864, 2), (1867, 1), (70, 1), (1868, 2), (1890, 1), (1907, 1), (1915, 2), (1870, 1), (1872, 1), (71, 1), (1873, 2), (1876, 1), (72, 1), (1877, 2)] rfl (by decide +kernel) w h).1
set_option maxRecDepth 20000 in
theorem win_22 : ∀ w ∈ wsL_law0_r22, w ∈ lw_tbl := fun w h => (goodIn_s wsL_law0_r22 [(1880, 1), (73, 1), (1881, 2), (1884, 1), (74, 1), (1885, 2), (1888, 1), (75, 1), (1889, 1), (1891, 1), (1893, 1), (76, 1), (1894, 2), (1897, 1), (77, 1), (1898, 2), (1901, 1), (78, 1), (1902, 2)] rfl (by decide +kernel) w h).1
set_option maxRecDepth 20000 in
theorem win_23 : ∀ w ∈ wsL_law0_r23, w ∈ lw_tbl := fun w h => (goodIn_s wsL_law0_r23 [(1905, 1), (79, 1), (1906, 1), (1908, 1), (1910, 1), (80, 1), (1911, 4), (1917, 1), (1919, 1), (81, 1), (1920, 2), (1923, 1), (82, 1), (1924, 2), (1927, 1), (83, 1), (1928, 1), (1650, 1), (1193, 1)] rfl (by decide +kernel) w h).1
set_option maxRecDepth 20000 in
theorem win_24 : ∀ w ∈ wsL_law0_r24, w ∈ lw_tbl := fun w h => (goodIn_s wsL_law0_r24 [(1194, 10), (193, 1), (202, 1), (1204, 4), (269, 1), (272, 1), (1208, 3), (1212, 1), (31, 1), (1213, 1)] rfl (by decide +kernel) w h).1
