/-! ===== the law's words stand in the tables (2) ===== -/
set_option maxRecDepth 20000 in
theorem win_9 : ∀ w ∈ wsL_law0_r9, w ∈ lw_tbl := fun w h => (goodIn_s wsL_law0_r9 [(1795, 1), (1639, 1), (1796, 4), (1801, 1), (62, 1), (1802, 1), (1784, 4), (994, 9), (163, 1), (1803, 1)] rfl (by decide +kernel) w h).1
set_option maxRecDepth 20000 in
theorem win_10 : ∀ w ∈ wsL_law0_r10, w ∈ lw_tbl := fun w h => (goodIn_s wsL_law0_r10 [(1804, 6), (1018, 7), (298, 1), (1025, 4), (190, 3), (195, 1), (203, 2)] rfl (by decide +kernel) w h).1
set_option maxRecDepth 20000 in
theorem win_11 : ∀ w ∈ wsL_law0_r11, w ∈ lw_tbl := fun w h => (goodIn_s wsL_law0_r11 [(1029, 4), (242, 1), (194, 1), (1033, 4), (293, 1), (299, 1), (309, 1), (313, 1), (315, 1), (317, 1), (1037, 4), (629, 2), (1042, 2)] rfl (by decide +kernel) w h).1
set_option maxRecDepth 20000 in
theorem win_12 : ∀ w ∈ wsL_law0_r12, w ∈ lw_tbl := fun w h => (goodIn_s wsL_law0_r12 [(1044, 5), (1050, 1), (22, 1), (1051, 1), (197, 1), (1052, 7), (1060, 1), (23, 1), (1061, 1), (200, 1), (1062, 4)] rfl (by decide +kernel) w h).1
set_option maxRecDepth 20000 in
theorem win_13 : ∀ w ∈ wsL_law0_r13, w ∈ lw_tbl := fun w h => (goodIn_s wsL_law0_r13 [(1067, 1), (24, 1), (1068, 1), (1070, 7), (164, 1), (1077, 1), (2351, 1), (1078, 5), (2352, 1), (1084, 5)] rfl (by decide +kernel) w h).1
set_option maxRecDepth 20000 in
theorem win_14 : ∀ w ∈ wsL_law0_r14, w ∈ lw_tbl := fun w h => (goodIn_s wsL_law0_r14 [(1089, 5), (165, 1), (1094, 5), (1100, 2), (166, 1), (1102, 3), (167, 1), (1105, 6)] rfl (by decide +kernel) w h).1
set_option maxRecDepth 20000 in
theorem win_15 : ∀ w ∈ wsL_law0_r15, w ∈ lw_tbl := fun w h => (goodIn_s wsL_law0_r15 [(1111, 6), (1118, 1), (1120, 1), (1122, 1), (1124, 1), (25, 1), (1125, 1), (297, 1), (196, 1), (199, 1), (1126, 9)] rfl (by decide +kernel) w h).1
set_option maxRecDepth 20000 in
theorem win_16 : ∀ w ∈ wsL_law0_r16, w ∈ lw_tbl := fun w h => (goodIn_s wsL_law0_r16 [(1135, 6), (887, 3), (1141, 8), (1151, 1), (1153, 1), (26, 1), (1154, 1), (303, 1), (1155, 2)] rfl (by decide +kernel) w h).1
