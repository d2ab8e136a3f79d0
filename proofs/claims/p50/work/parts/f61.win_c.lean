/-! ===== the law's words stand in the tables (3) ===== -/
set_option maxRecDepth 20000 in
theorem win_17 : ∀ w ∈ wsL_law0_r17, w ∈ xt_tbl := sg_mem [(307, 1), (81, 1), (472, 1), (326, 2), (82, 1), (473, 1), (383, 2), (83, 1), (474, 1), (410, 2), (84, 1), (475, 1), (435, 2), (85, 1), (476, 2), (104, 4)] rfl
set_option maxRecDepth 20000 in
theorem win_18 : ∀ w ∈ wsL_law0_r18, w ∈ xt_tbl := sg_mem [(121, 2), (152, 3), (162, 4), (172, 7), (195, 3), (210, 1), (267, 1), (224, 2), (227, 1)] rfl
set_option maxRecDepth 20000 in
theorem win_19 : ∀ w ∈ wsL_law0_r19, w ∈ xt_tbl := sg_mem [(232, 1), (237, 1), (271, 3), (281, 1), (284, 2), (289, 1), (308, 5), (315, 1), (329, 3), (344, 1), (346, 1), (350, 1), (353, 1), (355, 1), (357, 1)] rfl
set_option maxRecDepth 20000 in
theorem win_20 : ∀ w ∈ wsL_law0_r20, w ∈ xt_tbl := sg_mem [(386, 4), (391, 1), (393, 1), (413, 5), (419, 1), (438, 6), (1167, 5), (581, 1)] rfl
set_option maxRecDepth 20000 in
theorem win_21 : ∀ w ∈ wsL_law0_r21, w ∈ xt_tbl := sg_mem [(582, 10), (599, 3), (1172, 5), (89, 1), (108, 1), (1192, 4)] rfl
set_option maxRecDepth 20000 in
theorem win_22 : ∀ w ∈ wsL_law0_r22, w ∈ xt_tbl := sg_mem [(109, 1), (649, 2), (1197, 8), (688, 1), (90, 1), (515, 4), (203, 1), (519, 4), (110, 2)] rfl
set_option maxRecDepth 20000 in
theorem win_23 : ∀ w ∈ wsL_law0_r23, w ∈ xt_tbl := sg_mem [(112, 1), (114, 1), (119, 2), (523, 4), (155, 1), (113, 1), (527, 4), (198, 1), (204, 1), (214, 1), (218, 1), (220, 1), (222, 1), (531, 4)] rfl
set_option maxRecDepth 20000 in
theorem win_24 : ∀ w ∈ wsL_law0_r24, w ∈ xt_tbl := sg_mem [(536, 9), (546, 1), (6, 1), (547, 1), (116, 1), (548, 7), (556, 1), (7, 1), (557, 1), (118, 1)] rfl
