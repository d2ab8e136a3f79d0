set_option maxRecDepth 20000 in
theorem ggL_law_X12_placeApart : GoodIn wsL_law wsX12_placeApart := gIn_law (goodIn_s _ [(1648, 1), (193, 1), (1262, 3), (5, 1), (1265, 1), (1219, 4), (141, 1), (219, 3), (1246, 4), (1062, 4), (478, 4), (144, 1), (1112, 14), (535, 3), (1126, 4), (1078, 4), (1002, 4), (998, 4), (1082, 8), (194, 3), (1582, 4), (1134, 4), (452, 1), (143, 1), (1757, 48)] rfl (by decide +kernel))
set_option maxRecDepth 20000 in
theorem gL_law_X12_placeApart : GoodIn wsL_law (wsV RL 262 RX12 yX12_placeApart wsX12_placeApart) := goodIn_app (goodIn_of _ (by decide +kernel)) ggL_law_X12_placeApart
set_option maxRecDepth 20000 in
theorem ggL_law_L_setCredit : GoodIn wsL_law wsL_setCredit := goodIn_ca (gIn_law (goodIn_s _ [(1651, 1), (208, 1), (1652, 3), (2, 1), (1655, 1), (213, 2), (44, 1), (38, 1), (817, 1), (809, 4), (624, 3), (43, 1), (627, 2), (445, 1), (629, 1), (424, 3), (630, 4), (104, 1), (634, 3), (37, 1), (637, 1), (432, 1), (434, 2), (95, 4), (421, 3), (427, 1), (418, 3), (1739, 18), (1837, 10)] rfl (by decide +kernel))) (goodIn_sub (fun _ h => List.mem_append_left _ (List.mem_append_right _ h)) (by decide +kernel))
set_option maxRecDepth 20000 in
theorem gL_law_L_setCredit : GoodIn wsL_law (va_wsS RL 263 yL_setCredit wsL_setCredit) := goodIn_app (goodIn_of _ (by decide +kernel)) ggL_law_L_setCredit
set_option maxRecDepth 20000 in
theorem ggL_law_X12_setCredit : GoodIn wsL_law wsX12_setCredit := gIn_law (goodIn_s _ [(1659, 1), (977, 1), (219, 2), (5, 1), (221, 1), (189, 8), (478, 4), (144, 1), (141, 1), (1130, 4), (1582, 4), (1134, 4), (452, 1), (143, 1), (1757, 48)] rfl (by decide +kernel))
set_option maxRecDepth 20000 in
theorem gL_law_X12_setCredit : GoodIn wsL_law (wsV RL 265 RX12 yX12_setCredit wsX12_setCredit) := goodIn_app (goodIn_of _ (by decide +kernel)) ggL_law_X12_setCredit
set_option maxRecDepth 20000 in
theorem ggL_law_X11_report : GoodIn wsL_law wsX11_report := gIn_law (goodIn_s _ [(1663, 2), (32, 1), (750, 1), (229, 1), (38, 1), (909, 1), (1665, 1), (1358, 2), (2, 1), (1360, 1), (1160, 1), (1233, 4), (1230, 2), (647, 1), (260, 2), (1326, 1), (387, 2), (31, 1), (389, 1), (89, 2), (1666, 4), (62, 1), (1670, 1), (182, 2), (937, 1), (856, 2), (1671, 5), (366, 3), (87, 1), (1676, 2), (15, 1), (1678, 2), (1739, 18), (1825, 19)] rfl (by decide +kernel))
set_option maxRecDepth 20000 in
theorem gL_law_X11_report : GoodIn wsL_law (wsV RL 266 RX11 yX11_report wsX11_report) := goodIn_app (goodIn_of _ (by decide +kernel)) ggL_law_X11_report
set_option maxRecDepth 20000 in
theorem ggL_law_X12_report : GoodIn wsL_law wsX12_report := gIn_law (goodIn_s _ [(1683, 1), (193, 1), (1684, 2), (141, 1), (146, 1), (1365, 3), (5, 1), (1368, 1), (1086, 4), (1686, 4), (160, 1), (1690, 5), (535, 3), (1757, 48)] rfl (by decide +kernel))
set_option maxRecDepth 20000 in
theorem gL_law_X12_report : GoodIn wsL_law (wsV RL 269 RX12 yX12_report wsX12_report) := goodIn_app (goodIn_of _ (by decide +kernel)) ggL_law_X12_report
set_option maxRecDepth 20000 in
theorem ggL_law_L_reportByte : GoodIn wsL_law wsL_reportByte := goodIn_ca (gIn_law (goodIn_s _ [(1697, 1), (1205, 1), (1698, 3), (2, 1), (1701, 1), (759, 2), (1664, 1), (62, 1), (647, 1), (260, 2), (1739, 18)] rfl (by decide +kernel))) (goodIn_sub (fun _ h => List.mem_append_right _ h) (by decide +kernel))
set_option maxRecDepth 20000 in
theorem gL_law_L_reportByte : GoodIn wsL_law (va_wsS RL 270 yL_reportByte wsL_reportByte) := goodIn_app (goodIn_of _ (by decide +kernel)) ggL_law_L_reportByte
set_option maxRecDepth 20000 in
theorem ggL_law_X12_reportByte : GoodIn wsL_law wsX12_reportByte := gIn_law (goodIn_s _ [(1705, 1), (1685, 1), (1684, 1), (160, 1), (219, 2), (5, 1), (221, 1), (189, 8), (1757, 48)] rfl (by decide +kernel))
set_option maxRecDepth 20000 in
theorem gL_law_X12_reportByte : GoodIn wsL_law (wsV RL 272 RX12 yX12_reportByte wsX12_reportByte) := goodIn_app (goodIn_of _ (by decide +kernel)) ggL_law_X12_reportByte
set_option maxRecDepth 20000 in
theorem ggL_law_X11_undo : GoodIn wsL_law wsX11_undo := gIn_law (goodIn_s _ [(1709, 1), (44, 1), (38, 1), (1164, 1), (1710, 3), (43, 1), (1713, 1), (628, 1), (445, 1), (630, 4), (104, 1), (634, 3), (37, 1), (637, 1), (432, 1), (434, 2), (95, 4), (421, 1), (2, 1), (422, 6), (418, 3), (1739, 18), (1844, 3), (1837, 7)] rfl (by decide +kernel))
set_option maxRecDepth 20000 in
theorem gL_law_X11_undo : GoodIn wsL_law (wsV RL 273 RX11 yX11_undo wsX11_undo) := goodIn_app (goodIn_of _ (by decide +kernel)) ggL_law_X11_undo
set_option maxRecDepth 20000 in
theorem ggL_law_X12_undo : GoodIn wsL_law wsX12_undo := gIn_law (goodIn_s _ [(1717, 1), (193, 1), (452, 1), (141, 1), (143, 1), (1757, 48)] rfl (by decide +kernel))
set_option maxRecDepth 20000 in
theorem gL_law_X12_undo : GoodIn wsL_law (wsV RL 276 RX12 yX12_undo wsX12_undo) := goodIn_app (goodIn_of _ (by decide +kernel)) ggL_law_X12_undo
set_option maxRecDepth 20000 in
theorem ggL_law_X11_save : GoodIn wsL_law wsX11_save := gIn_law (goodIn_s _ [(1721, 1), (34, 1), (32, 1), (40, 1), (38, 1), (1722, 1), (413, 3), (31, 1), (416, 1), (250, 2), (86, 1), (252, 4), (87, 1), (417, 4), (88, 4), (421, 1), (2, 1), (422, 6), (1521, 1), (635, 2), (37, 1), (637, 1), (432, 1), (434, 2), (95, 4), (1389, 1), (1341, 3), (48, 1), (843, 1), (672, 3), (47, 1), (675, 8), (112, 1), (683, 4), (260, 2), (687, 8), (108, 2), (111, 1), (695, 4), (110, 1), (699, 1), (438, 3), (700, 4), (656, 2), (182, 2), (704, 4), (113, 1), (708, 9), (1739, 18), (1825, 19), (1847, 12)] rfl (by decide +kernel))
set_option maxRecDepth 20000 in
theorem gL_law_X11_save : GoodIn wsL_law (wsV RL 277 RX11 yX11_save wsX11_save) := goodIn_app (goodIn_of _ (by decide +kernel)) ggL_law_X11_save
set_option maxRecDepth 20000 in
theorem ggL_law_X12_save : GoodIn wsL_law wsX12_save := gIn_law (goodIn_s _ [(1726, 1), (193, 1), (142, 1), (141, 1), (147, 1), (146, 1), (1727, 1), (1082, 3), (5, 1), (1085, 5), (1757, 48)] rfl (by decide +kernel))
set_option maxRecDepth 20000 in
theorem gL_law_X12_save : GoodIn wsL_law (wsV RL 280 RX12 yX12_save wsX12_save) := goodIn_app (goodIn_of _ (by decide +kernel)) ggL_law_X12_save
set_option maxRecDepth 20000 in
theorem ggL_law_L_restore : GoodIn wsL_law wsL_restore := goodIn_ca (gIn_law (goodIn_s _ [(1730, 1), (169, 1), (1731, 3), (2, 1), (1734, 1), (174, 2), (1722, 1), (32, 1), (34, 1), (38, 1), (40, 1), (44, 1), (413, 3), (31, 1), (416, 1), (250, 2), (86, 1), (252, 4), (87, 1), (417, 4), (88, 4), (421, 7), (1521, 1), (635, 2), (37, 1), (637, 1), (432, 1), (434, 2), (95, 4), (441, 3), (43, 1), (444, 2), (1389, 1), (1341, 3), (48, 1), (843, 1), (672, 3), (47, 1), (675, 8), (112, 1), (683, 4), (260, 2), (687, 8), (108, 2), (111, 1), (695, 4), (110, 1), (699, 1), (438, 3), (700, 4), (656, 2), (182, 2), (704, 4), (113, 1), (708, 9), (1739, 18), (1825, 34)] rfl (by decide +kernel))) (goodIn_sub (fun _ h => List.mem_append_left _ (List.mem_append_left _ (List.mem_append_right _ h))) (by decide +kernel))
set_option maxRecDepth 20000 in
theorem gL_law_L_restore : GoodIn wsL_law (va_wsS RL 281 yL_restore wsL_restore) := goodIn_app (goodIn_of _ (by decide +kernel)) ggL_law_L_restore
