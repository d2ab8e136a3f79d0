/-! ===== the law's words stand in the tables (4) ===== -/
set_option maxRecDepth 20000 in
theorem win_25 : ∀ w ∈ wsL_law0_r25, w ∈ lw_tbl := fun w h => (goodIn_s wsL_law0_r25 [(1215, 5), (1221, 1), (32, 1), (1222, 1), (1224, 2), (1227, 1), (33, 1), (1228, 1), (273, 1), (1229, 1), (1231, 1), (34, 1), (1232, 1), (1234, 1), (1243, 1), (1245, 1), (35, 1), (1246, 1), (201, 1)] rfl (by decide +kernel) w h).1
set_option maxRecDepth 20000 in
theorem win_26 : ∀ w ∈ wsL_law0_r26, w ∈ lw_tbl := fun w h => (goodIn_s wsL_law0_r26 [(271, 1), (1247, 1), (1249, 5), (1255, 1), (36, 1), (1256, 2), (1259, 1), (37, 1), (1260, 2), (1263, 1), (38, 1), (1264, 1), (198, 1), (1265, 1), (1267, 1), (39, 1), (1268, 2)] rfl (by decide +kernel) w h).1
set_option maxRecDepth 20000 in
theorem win_27 : ∀ w ∈ wsL_law0_r27, w ∈ lw_tbl := fun w h => (goodIn_s wsL_law0_r27 [(836, 4), (412, 1), (849, 1), (840, 1), (842, 1), (16, 1), (843, 5), (1271, 1), (1273, 1), (40, 1), (1274, 2), (270, 1), (263, 1), (265, 1), (267, 1), (701, 1)] rfl (by decide +kernel) w h).1
set_option maxRecDepth 20000 in
theorem win_28 : ∀ w ∈ wsL_law0_r28, w ∈ lw_tbl := fun w h => (goodIn_s wsL_law0_r28 [(1276, 4), (1281, 4), (632, 2), (1286, 1), (1288, 1), (41, 1), (1289, 1), (371, 1), (1290, 1), (725, 3), (494, 1), (728, 1), (730, 1), (6, 1), (731, 1)] rfl (by decide +kernel) w h).1
set_option maxRecDepth 20000 in
theorem win_29 : ∀ w ∈ wsL_law0_r29, w ∈ lw_tbl := fun w h => (goodIn_s wsL_law0_r29 [(656, 4), (428, 1), (306, 1), (431, 1), (433, 1), (373, 1), (435, 2), (660, 4), (665, 5), (671, 1), (3, 1), (672, 1), (296, 1)] rfl (by decide +kernel) w h).1
set_option maxRecDepth 20000 in
theorem win_30 : ∀ w ∈ wsL_law0_r30, w ∈ lw_tbl := fun w h => (goodIn_s wsL_law0_r30 [(383, 1), (378, 1), (321, 1), (673, 5), (681, 1), (683, 1), (4, 1), (684, 1), (438, 1), (302, 1), (326, 1), (331, 1), (336, 1), (685, 4), (732, 3)] rfl (by decide +kernel) w h).1
set_option maxRecDepth 20000 in
theorem win_31 : ∀ w ∈ wsL_law0_r31, w ∈ lw_tbl := fun w h => (goodIn_s wsL_law0_r31 [(735, 1), (300, 1), (382, 1), (324, 1), (329, 1), (334, 1), (736, 2), (740, 4), (493, 1), (430, 1), (744, 1), (746, 1), (7, 1), (747, 1), (444, 1), (447, 1), (434, 1), (1291, 1), (1293, 1), (42, 1)] rfl (by decide +kernel) w h).1
set_option maxRecDepth 20000 in
theorem win_32 : ∀ w ∈ wsL_law0_r32, w ∈ lw_tbl := fun w h => (goodIn_s wsL_law0_r32 [(1294, 1), (781, 1), (1295, 1), (1297, 1), (43, 1), (1298, 1), (308, 1), (1299, 5), (1305, 1), (44, 1), (1306, 2), (171, 1), (1323, 1), (1325, 1), (45, 1), (1326, 1), (1328, 3)] rfl (by decide +kernel) w h).1
