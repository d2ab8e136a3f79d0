set_option maxRecDepth 20000 in
theorem ggL_law_X12_side : GoodIn wsL_law wsX12_side := gIn_law (goodIn_s _ [(1288, 1), (1116, 1), (1262, 3), (5, 1), (1265, 1), (1219, 4), (141, 1), (219, 3), (189, 8), (1117, 9), (535, 3), (1126, 4), (1757, 48)] rfl (by decide +kernel))
set_option maxRecDepth 20000 in
theorem gL_law_X12_side : GoodIn wsL_law (wsV RL 157 RX12 yX12_side wsX12_side) := goodIn_app (goodIn_of _ (by decide +kernel)) ggL_law_X12_side
set_option maxRecDepth 20000 in
theorem ggL_law_X11_leastFlow : GoodIn wsL_law wsX11_leastFlow := gIn_law (goodIn_s _ [(1292, 1), (32, 1), (229, 1), (60, 1), (1273, 1), (910, 3), (59, 1), (913, 9), (129, 1), (922, 5), (438, 3), (260, 1), (2, 1), (261, 1), (656, 2), (927, 5), (130, 2), (182, 2), (856, 2), (932, 5), (424, 3), (1739, 18), (1825, 12), (1869, 6)] rfl (by decide +kernel))
set_option maxRecDepth 20000 in
theorem gL_law_X11_leastFlow : GoodIn wsL_law (wsV RL 158 RX11 yX11_leastFlow wsX11_leastFlow) := goodIn_app (goodIn_of _ (by decide +kernel)) ggL_law_X11_leastFlow
set_option maxRecDepth 20000 in
theorem ggL_law_X12_leastFlow : GoodIn wsL_law wsX12_leastFlow := gIn_law (goodIn_s _ [(1296, 1), (193, 1), (1122, 3), (5, 1), (1125, 1), (141, 1), (1126, 4), (535, 3), (1757, 48)] rfl (by decide +kernel))
set_option maxRecDepth 20000 in
theorem gL_law_X12_leastFlow : GoodIn wsL_law (wsV RL 161 RX12 yX12_leastFlow wsX12_leastFlow) := goodIn_app (goodIn_of _ (by decide +kernel)) ggL_law_X12_leastFlow
set_option maxRecDepth 20000 in
theorem ggL_law_L_partOf : GoodIn wsL_law wsL_partOf := goodIn_ca (gIn_law (goodIn_s _ [(1299, 1), (1205, 1), (1300, 3), (2, 1), (1303, 1), (38, 1), (909, 1), (1211, 4), (759, 2), (801, 4), (32, 1), (229, 1), (647, 1), (260, 2), (1739, 18), (1837, 7), (1825, 12)] rfl (by decide +kernel))) (goodIn_sub (fun _ h => List.mem_append_right _ h) (by decide +kernel))
set_option maxRecDepth 20000 in
theorem gL_law_L_partOf : GoodIn wsL_law (va_wsS RL 162 yL_partOf wsL_partOf) := goodIn_app (goodIn_of _ (by decide +kernel)) ggL_law_L_partOf
set_option maxRecDepth 20000 in
theorem ggL_law_X12_partOf : GoodIn wsL_law wsX12_partOf := gIn_law (goodIn_s _ [(1307, 1), (141, 1), (1219, 3), (5, 1), (1222, 1), (219, 3), (189, 8), (1757, 48)] rfl (by decide +kernel))
set_option maxRecDepth 20000 in
theorem gL_law_X12_partOf : GoodIn wsL_law (wsV RL 164 RX12 yX12_partOf wsX12_partOf) := goodIn_app (goodIn_of _ (by decide +kernel)) ggL_law_X12_partOf
set_option maxRecDepth 20000 in
theorem ggL_law_L_part : GoodIn wsL_law wsL_part := goodIn_ca (goodIn_ca (gIn_law (goodIn_s _ [(1310, 1), (1205, 1), (208, 1), (1311, 3), (2, 1), (1314, 1), (213, 2), (48, 1), (32, 1), (38, 1), (1315, 2), (761, 4), (759, 2), (746, 5), (672, 3), (47, 1), (675, 8), (112, 1), (683, 3), (37, 1), (686, 1), (96, 1), (432, 1), (260, 2), (687, 3), (31, 1), (690, 1), (86, 1), (252, 1), (254, 1), (691, 4), (108, 2), (111, 1), (695, 4), (110, 1), (699, 1), (438, 3), (700, 4), (656, 2), (182, 2), (704, 4), (113, 1), (708, 9), (647, 1), (1317, 5), (250, 1), (856, 2), (1171, 4), (251, 1), (386, 4), (89, 2), (1322, 4), (1160, 1), (1232, 5), (909, 1), (1230, 2), (1326, 1), (1739, 18), (1847, 12), (1825, 19)] rfl (by decide +kernel))) (goodIn_sub (fun _ h => List.mem_append_left _ (List.mem_append_right _ h)) (by decide +kernel))) (goodIn_sub (fun _ h => List.mem_append_right _ h) (by decide +kernel))
set_option maxRecDepth 20000 in
theorem gL_law_L_part : GoodIn wsL_law (va_wsS RL 165 yL_part wsL_part) := goodIn_app (goodIn_of _ (by decide +kernel)) ggL_law_L_part
set_option maxRecDepth 20000 in
theorem ggL_law_X12_part : GoodIn wsL_law wsX12_part := gIn_law (goodIn_s _ [(1330, 2), (1026, 3), (5, 1), (1029, 1), (141, 1), (219, 3), (1246, 4), (193, 1), (1038, 4), (1046, 4), (1010, 8), (1332, 4), (194, 3), (1336, 4), (535, 3), (1195, 4), (1126, 4), (1757, 48)] rfl (by decide +kernel))
set_option maxRecDepth 20000 in
theorem gL_law_X12_part : GoodIn wsL_law (wsV RL 167 RX12 yX12_part wsX12_part) := goodIn_app (goodIn_of _ (by decide +kernel)) ggL_law_X12_part
set_option maxRecDepth 20000 in
theorem ggL_law_X11_cut : GoodIn wsL_law wsX11_cut := gIn_law (goodIn_s _ [(1343, 1), (48, 1), (32, 1), (38, 1), (843, 1), (672, 3), (47, 1), (675, 8), (112, 1), (683, 3), (37, 1), (686, 1), (96, 1), (432, 1), (260, 1), (2, 1), (261, 1), (687, 3), (31, 1), (690, 1), (86, 1), (252, 1), (254, 1), (691, 4), (108, 2), (111, 1), (695, 4), (110, 1), (699, 1), (438, 3), (700, 4), (656, 2), (182, 2), (704, 4), (113, 1), (708, 9), (1739, 18), (1847, 12), (1825, 19)] rfl (by decide +kernel))
set_option maxRecDepth 20000 in
theorem gL_law_X11_cut : GoodIn wsL_law (wsV RL 168 RX11 yX11_cut wsX11_cut) := goodIn_app (goodIn_of _ (by decide +kernel)) ggL_law_X11_cut
set_option maxRecDepth 20000 in
theorem ggL_law_X12_cut : GoodIn wsL_law wsX12_cut := gIn_law (goodIn_s _ [(1347, 1), (193, 1), (1082, 3), (5, 1), (1085, 1), (141, 1), (1086, 4), (1757, 48)] rfl (by decide +kernel))
set_option maxRecDepth 20000 in
theorem gL_law_X12_cut : GoodIn wsL_law (wsV RL 171 RX12 yX12_cut wsX12_cut) := goodIn_app (goodIn_of _ (by decide +kernel)) ggL_law_X12_cut
set_option maxRecDepth 20000 in
theorem ggL_law_X11_debts : GoodIn wsL_law wsX11_debts := gIn_law (goodIn_s _ [(1351, 1), (48, 1), (32, 1), (38, 1), (1352, 1), (672, 3), (47, 1), (675, 8), (112, 1), (683, 3), (37, 1), (686, 1), (96, 1), (432, 1), (260, 1), (2, 1), (261, 1), (687, 3), (31, 1), (690, 1), (86, 1), (252, 1), (254, 1), (691, 4), (108, 2), (111, 1), (695, 4), (110, 1), (699, 1), (438, 3), (700, 4), (656, 2), (182, 2), (704, 4), (113, 1), (708, 9), (1739, 18), (1847, 12), (1825, 19)] rfl (by decide +kernel))
set_option maxRecDepth 20000 in
theorem gL_law_X11_debts : GoodIn wsL_law (wsV RL 172 RX11 yX11_debts wsX11_debts) := goodIn_app (goodIn_of _ (by decide +kernel)) ggL_law_X11_debts
set_option maxRecDepth 20000 in
theorem ggL_law_X12_debts : GoodIn wsL_law wsX12_debts := gIn_law (goodIn_s _ [(1356, 1), (193, 1), (1042, 3), (5, 1), (1045, 1), (141, 1), (1046, 4), (1038, 4), (1010, 8), (1757, 48)] rfl (by decide +kernel))
set_option maxRecDepth 20000 in
theorem gL_law_X12_debts : GoodIn wsL_law (wsV RL 175 RX12 yX12_debts wsX12_debts) := goodIn_app (goodIn_of _ (by decide +kernel)) ggL_law_X12_debts
set_option maxRecDepth 20000 in
theorem ggL_law_X11_border : GoodIn wsL_law wsX11_border := gIn_law (goodIn_s _ [(1360, 1), (32, 1), (1160, 1), (1233, 3), (2, 1), (1236, 1), (38, 1), (909, 1), (1230, 2), (647, 1), (260, 2), (1326, 1), (387, 2), (31, 1), (389, 1), (89, 2), (1739, 18), (1825, 19)] rfl (by decide +kernel))
set_option maxRecDepth 20000 in
theorem gL_law_X11_border : GoodIn wsL_law (wsV RL 176 RX11 yX11_border wsX11_border) := goodIn_app (goodIn_of _ (by decide +kernel)) ggL_law_X11_border
