set_option maxRecDepth 20000 in
theorem ggL_law_X12_border : GoodIn wsL_law wsX12_border := gIn_law (goodIn_s _ [(1364, 1), (193, 1), (1365, 3), (5, 1), (1368, 1), (141, 1), (1086, 4), (1757, 48)] rfl (by decide +kernel))
set_option maxRecDepth 20000 in
theorem gL_law_X12_border : GoodIn wsL_law (wsV RL 179 RX12 yX12_border wsX12_border) := goodIn_app (goodIn_of _ (by decide +kernel)) ggL_law_X12_border
set_option maxRecDepth 20000 in
theorem ggL_law_X11_heaviest : GoodIn wsL_law wsX11_heaviest := gIn_law (goodIn_s _ [(1372, 1), (48, 1), (32, 1), (38, 1), (672, 3), (47, 1), (675, 8), (112, 1), (683, 3), (37, 1), (686, 1), (96, 1), (432, 1), (260, 1), (2, 1), (261, 1), (687, 3), (31, 1), (690, 1), (86, 1), (252, 1), (254, 1), (691, 4), (108, 2), (111, 1), (695, 4), (110, 1), (699, 1), (438, 3), (700, 4), (656, 2), (182, 2), (704, 4), (113, 1), (708, 9), (1373, 4), (1739, 18), (1847, 12), (1825, 19)] rfl (by decide +kernel))
set_option maxRecDepth 20000 in
theorem gL_law_X11_heaviest : GoodIn wsL_law (wsV RL 180 RX11 yX11_heaviest wsX11_heaviest) := goodIn_app (goodIn_of _ (by decide +kernel)) ggL_law_X11_heaviest
set_option maxRecDepth 20000 in
theorem ggL_law_X12_heaviest : GoodIn wsL_law wsX12_heaviest := gIn_law (goodIn_s _ [(1380, 1), (193, 1), (1381, 3), (5, 1), (1384, 1), (141, 1), (1038, 4), (1757, 48)] rfl (by decide +kernel))
set_option maxRecDepth 20000 in
theorem gL_law_X12_heaviest : GoodIn wsL_law (wsV RL 183 RX12 yX12_heaviest wsX12_heaviest) := goodIn_app (goodIn_of _ (by decide +kernel)) ggL_law_X12_heaviest
set_option maxRecDepth 20000 in
theorem ggL_law_X11_cutShare : GoodIn wsL_law wsX11_cutShare := gIn_law (goodIn_s _ [(1388, 1), (32, 1), (1163, 1), (1389, 1), (1341, 2), (2, 1), (1343, 1), (48, 1), (38, 1), (843, 1), (672, 3), (47, 1), (675, 8), (112, 1), (683, 3), (37, 1), (686, 1), (96, 1), (432, 1), (260, 2), (687, 3), (31, 1), (690, 1), (86, 1), (252, 1), (254, 1), (691, 4), (108, 2), (111, 1), (695, 4), (110, 1), (699, 1), (438, 3), (700, 4), (656, 2), (182, 2), (704, 4), (113, 1), (708, 9), (1739, 18), (1825, 12), (1847, 12), (1837, 7)] rfl (by decide +kernel))
set_option maxRecDepth 20000 in
theorem gL_law_X11_cutShare : GoodIn wsL_law (wsV RL 184 RX11 yX11_cutShare wsX11_cutShare) := goodIn_app (goodIn_of _ (by decide +kernel)) ggL_law_X11_cutShare
set_option maxRecDepth 20000 in
theorem ggL_law_X12_cutShare : GoodIn wsL_law wsX12_cutShare := gIn_law (goodIn_s _ [(1393, 1), (193, 1), (1187, 3), (5, 1), (1190, 1), (141, 1), (1082, 8), (1757, 48)] rfl (by decide +kernel))
set_option maxRecDepth 20000 in
theorem gL_law_X12_cutShare : GoodIn wsL_law (wsV RL 188 RX12 yX12_cutShare wsX12_cutShare) := goodIn_app (goodIn_of _ (by decide +kernel)) ggL_law_X12_cutShare
set_option maxRecDepth 20000 in
theorem ggL_law_X11_imbalance : GoodIn wsL_law wsX11_imbalance := gIn_law (goodIn_s _ [(1397, 1), (32, 1), (1162, 1), (48, 1), (38, 1), (1315, 1), (750, 1), (672, 3), (47, 1), (675, 8), (112, 1), (683, 3), (37, 1), (686, 1), (96, 1), (432, 1), (260, 1), (2, 1), (261, 1), (687, 3), (31, 1), (690, 1), (86, 1), (252, 1), (254, 1), (691, 4), (108, 2), (111, 1), (695, 4), (110, 1), (699, 1), (438, 3), (700, 4), (656, 2), (182, 2), (704, 4), (113, 1), (708, 9), (1373, 4), (647, 1), (1739, 18), (1825, 12), (1847, 12), (1837, 7)] rfl (by decide +kernel))
set_option maxRecDepth 20000 in
theorem gL_law_X11_imbalance : GoodIn wsL_law (wsV RL 189 RX11 yX11_imbalance wsX11_imbalance) := goodIn_app (goodIn_of _ (by decide +kernel)) ggL_law_X11_imbalance
set_option maxRecDepth 20000 in
theorem ggL_law_X12_imbalance : GoodIn wsL_law wsX12_imbalance := gIn_law (goodIn_s _ [(1401, 1), (193, 1), (141, 1), (1014, 3), (5, 1), (1017, 1), (1381, 4), (1038, 4), (1757, 48)] rfl (by decide +kernel))
set_option maxRecDepth 20000 in
theorem gL_law_X12_imbalance : GoodIn wsL_law (wsV RL 193 RX12 yX12_imbalance wsX12_imbalance) := goodIn_app (goodIn_of _ (by decide +kernel)) ggL_law_X12_imbalance
set_option maxRecDepth 20000 in
theorem ggL_law_L_group : GoodIn wsL_law wsL_group := goodIn_ca (goodIn_ca (gIn_law (goodIn_s _ [(1404, 1), (1205, 1), (208, 1), (1405, 3), (2, 1), (1408, 1), (213, 2), (48, 1), (32, 1), (38, 1), (844, 1), (1409, 1), (842, 1), (755, 6), (741, 5), (684, 2), (37, 1), (686, 1), (96, 1), (432, 1), (260, 2), (672, 3), (47, 1), (675, 8), (112, 1), (683, 1), (687, 3), (31, 1), (690, 1), (86, 1), (252, 1), (254, 1), (691, 4), (108, 2), (111, 1), (695, 4), (110, 1), (699, 1), (438, 3), (700, 4), (656, 2), (182, 2), (704, 4), (113, 1), (708, 9), (647, 1), (1410, 4), (1739, 18), (1847, 12), (1837, 7), (1825, 12)] rfl (by decide +kernel))) (goodIn_sub (fun _ h => List.mem_append_left _ (List.mem_append_right _ h)) (by decide +kernel))) (goodIn_sub (fun _ h => List.mem_append_right _ h) (by decide +kernel))
set_option maxRecDepth 20000 in
theorem gL_law_L_group : GoodIn wsL_law (va_wsS RL 194 yL_group wsL_group) := goodIn_app (goodIn_of _ (by decide +kernel)) ggL_law_L_group
set_option maxRecDepth 20000 in
theorem ggL_law_X12_group : GoodIn wsL_law wsX12_group := gIn_law (goodIn_s _ [(1417, 1), (1241, 1), (1022, 3), (5, 1), (1025, 1), (986, 4), (141, 1), (219, 3), (1246, 4), (193, 1), (1418, 4), (998, 4), (194, 3), (1006, 4), (1002, 4), (1126, 4), (535, 3), (1757, 48)] rfl (by decide +kernel))
set_option maxRecDepth 20000 in
theorem gL_law_X12_group : GoodIn wsL_law (wsV RL 196 RX12 yX12_group wsX12_group) := goodIn_app (goodIn_of _ (by decide +kernel)) ggL_law_X12_group
set_option maxRecDepth 20000 in
theorem ggL_law_L_groupOf : GoodIn wsL_law wsL_groupOf := goodIn_ca (gIn_law (goodIn_s _ [(1424, 1), (1205, 1), (1425, 3), (2, 1), (1428, 1), (38, 1), (1429, 1), (1211, 4), (759, 2), (801, 4), (32, 1), (229, 1), (1430, 1), (701, 2), (37, 1), (703, 1), (432, 1), (647, 1), (260, 2), (1739, 18), (1837, 7), (1825, 12)] rfl (by decide +kernel))) (goodIn_sub (fun _ h => List.mem_append_right _ h) (by decide +kernel))
set_option maxRecDepth 20000 in
theorem gL_law_L_groupOf : GoodIn wsL_law (va_wsS RL 197 yL_groupOf wsL_groupOf) := goodIn_app (goodIn_of _ (by decide +kernel)) ggL_law_L_groupOf
set_option maxRecDepth 20000 in
theorem ggL_law_X12_groupOf : GoodIn wsL_law wsX12_groupOf := gIn_law (goodIn_s _ [(1434, 1), (1219, 3), (5, 1), (1222, 1), (141, 1), (219, 3), (189, 8), (998, 4), (1757, 48)] rfl (by decide +kernel))
set_option maxRecDepth 20000 in
theorem gL_law_X12_groupOf : GoodIn wsL_law (wsV RL 199 RX12 yX12_groupOf wsX12_groupOf) := goodIn_app (goodIn_of _ (by decide +kernel)) ggL_law_X12_groupOf
set_option maxRecDepth 20000 in
theorem ggL_law_X11_whyNotShrink : GoodIn wsL_law wsX11_whyNotShrink := gIn_law (goodIn_s _ [(666, 1), (38, 1), (662, 1), (52, 1), (667, 4), (2, 1), (671, 1), (48, 1), (32, 1), (672, 3), (47, 1), (675, 8), (112, 1), (683, 3), (37, 1), (686, 1), (96, 1), (432, 1), (260, 2), (687, 3), (31, 1), (690, 1), (86, 1), (252, 1), (254, 1), (691, 4), (108, 2), (111, 1), (695, 4), (110, 1), (699, 1), (438, 3), (700, 4), (656, 2), (182, 2), (704, 4), (113, 1), (708, 12), (51, 1), (720, 1), (117, 1), (721, 11), (118, 1), (732, 9), (1739, 18), (1837, 7), (1859, 5), (1847, 12), (1825, 12)] rfl (by decide +kernel))
set_option maxRecDepth 20000 in
theorem gL_law_X11_whyNotShrink : GoodIn wsL_law (wsV RL 200 RX11 yX11_whyNotShrink wsX11_whyNotShrink) := goodIn_app (goodIn_of _ (by decide +kernel)) ggL_law_X11_whyNotShrink
