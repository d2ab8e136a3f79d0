/-! ===== the law's words stand in the tables (2) ===== -/
set_option maxRecDepth 20000 in
theorem win_9 : ∀ w ∈ wsL_law0_r9, w ∈ xt_tbl := sg_mem [(982, 3), (71, 1), (985, 20)] rfl
set_option maxRecDepth 20000 in
theorem win_10 : ∀ w ∈ wsL_law0_r10, w ∈ xt_tbl := sg_mem [(1005, 4), (1854, 1), (1009, 4), (73, 1), (1013, 5), (1019, 1), (1021, 8)] rfl
set_option maxRecDepth 20000 in
theorem win_11 : ∀ w ∈ wsL_law0_r11, w ∈ xt_tbl := sg_mem [(1033, 3), (1037, 5), (1855, 1), (1042, 8), (602, 3), (608, 1), (592, 2), (596, 1)] rfl
set_option maxRecDepth 20000 in
theorem win_12 : ∀ w ∈ wsL_law0_r12, w ∈ xt_tbl := sg_mem [(597, 2), (1050, 13), (886, 1), (1063, 1), (1065, 2), (1064, 1), (1067, 2), (1070, 1), (1069, 1)] rfl
set_option maxRecDepth 20000 in
theorem win_13 : ∀ w ∈ wsL_law0_r13, w ∈ xt_tbl := sg_mem [(1071, 4), (1069, 1), (1075, 17), (609, 2)] rfl
set_option maxRecDepth 20000 in
theorem win_14 : ∀ w ∈ wsL_law0_r14, w ∈ xt_tbl := sg_mem [(611, 1), (1092, 4), (1111, 1), (1115, 1), (1117, 1), (1119, 1), (810, 2), (808, 1), (1120, 1), (1122, 1), (16, 1), (1123, 2), (1126, 1), (17, 1), (1127, 2), (1130, 1), (18, 1), (1131, 1)] rfl
set_option maxRecDepth 20000 in
theorem win_15 : ∀ w ∈ wsL_law0_r15, w ∈ xt_tbl := sg_mem [(1165, 2), (1132, 5), (1877, 1), (1137, 1), (1158, 5), (1164, 1), (95, 4), (101, 2), (75, 1), (462, 1), (149, 1)] rfl
set_option maxRecDepth 20000 in
theorem win_16 : ∀ w ∈ wsL_law0_r16, w ∈ xt_tbl := sg_mem [(150, 1), (76, 1), (463, 1), (159, 2), (77, 1), (464, 1), (169, 2), (78, 1), (465, 1), (192, 2), (79, 1), (466, 3), (268, 2), (80, 1), (469, 3), (306, 1)] rfl
