set_option maxRecDepth 20000 in
theorem ggL_law_X12_bestDebts : GoodIn wsL_law wsX12_bestDebts := gIn_law (goodIn_s _ [(1496, 1), (193, 1), (1106, 1), (986, 3), (5, 1), (989, 1), (141, 1), (1102, 4), (151, 1), (150, 1), (1107, 1), (1006, 4), (998, 4), (994, 4), (1108, 4), (154, 1), (152, 2), (1010, 8), (1757, 48)] rfl (by decide +kernel))
set_option maxRecDepth 20000 in
theorem gL_law_X12_bestDebts : GoodIn wsL_law (wsV RL 223 RX12 yX12_bestDebts wsX12_bestDebts) := goodIn_app (goodIn_of _ (by decide +kernel)) ggL_law_X12_bestDebts
set_option maxRecDepth 20000 in
theorem ggL_law_X11_bestCut : GoodIn wsL_law wsX11_bestCut := gIn_law (goodIn_s _ [(1500, 1), (56, 1), (1501, 1), (797, 3), (2, 1), (800, 1), (38, 1), (745, 1), (684, 2), (37, 1), (686, 1), (96, 1), (432, 1), (260, 2), (862, 4), (48, 1), (32, 1), (52, 1), (672, 3), (47, 1), (675, 8), (112, 1), (683, 1), (687, 3), (31, 1), (690, 1), (86, 1), (252, 1), (254, 1), (691, 4), (108, 2), (111, 1), (695, 4), (110, 1), (699, 1), (438, 3), (700, 4), (656, 2), (182, 2), (704, 4), (113, 1), (708, 12), (51, 1), (720, 1), (117, 1), (721, 7), (866, 3), (55, 1), (869, 1), (123, 1), (870, 4), (124, 1), (874, 5), (125, 1), (879, 8), (421, 7), (418, 3), (887, 12), (1739, 18), (1864, 5), (1837, 7), (1847, 12), (1825, 12), (1859, 5)] rfl (by decide +kernel))
set_option maxRecDepth 20000 in
theorem gL_law_X11_bestCut : GoodIn wsL_law (wsV RL 224 RX11 yX11_bestCut wsX11_bestCut) := goodIn_app (goodIn_of _ (by decide +kernel)) ggL_law_X11_bestCut
set_option maxRecDepth 20000 in
theorem ggL_law_X12_bestCut : GoodIn wsL_law wsX12_bestCut := gIn_law (goodIn_s _ [(1505, 1), (193, 1), (1107, 1), (986, 3), (5, 1), (989, 1), (141, 1), (1102, 4), (151, 1), (150, 1), (1106, 1), (1006, 4), (998, 4), (994, 4), (1108, 4), (154, 1), (152, 2), (1010, 8), (1757, 48)] rfl (by decide +kernel))
set_option maxRecDepth 20000 in
theorem gL_law_X12_bestCut : GoodIn wsL_law (wsV RL 227 RX12 yX12_bestCut wsX12_bestCut) := goodIn_app (goodIn_of _ (by decide +kernel)) ggL_law_X12_bestCut
set_option maxRecDepth 20000 in
theorem ggL_law_L_stepsToEnd : GoodIn wsL_law wsL_stepsToEnd := goodIn_ca (gIn_law (goodIn_s _ [(1508, 1), (208, 1), (1509, 3), (2, 1), (1512, 1), (48, 1), (32, 1), (39, 1), (1513, 4), (213, 2), (1517, 4), (38, 1), (1521, 1), (635, 2), (37, 1), (637, 1), (432, 1), (434, 2), (95, 4), (421, 7), (418, 3), (858, 4), (672, 3), (47, 1), (675, 8), (112, 1), (683, 4), (260, 2), (687, 3), (31, 1), (690, 1), (86, 1), (252, 1), (254, 1), (691, 4), (108, 2), (111, 1), (695, 4), (110, 1), (699, 1), (438, 3), (700, 4), (656, 2), (182, 2), (704, 4), (113, 1), (708, 9), (781, 12), (769, 8), (838, 7), (647, 1), (845, 13), (1739, 18), (1837, 7), (1847, 12), (1825, 12)] rfl (by decide +kernel))) (goodIn_sub (fun _ h => List.mem_append_left _ (List.mem_append_right _ h)) (by decide +kernel))
set_option maxRecDepth 20000 in
theorem gL_law_L_stepsToEnd : GoodIn wsL_law (va_wsS RL 228 yL_stepsToEnd wsL_stepsToEnd) := goodIn_app (goodIn_of _ (by decide +kernel)) ggL_law_L_stepsToEnd
set_option maxRecDepth 20000 in
theorem ggL_law_X12_stepsToEnd : GoodIn wsL_law wsX12_stepsToEnd := gIn_law (goodIn_s _ [(1525, 2), (219, 2), (5, 1), (221, 1), (189, 8), (1527, 4), (145, 1), (141, 1), (1050, 4), (1042, 8), (1038, 4), (1010, 8), (1054, 4), (986, 4), (1058, 4), (1002, 4), (998, 4), (1034, 4), (1006, 4), (1030, 4), (1090, 4), (1074, 16), (1531, 4), (1757, 48)] rfl (by decide +kernel))
set_option maxRecDepth 20000 in
theorem gL_law_X12_stepsToEnd : GoodIn wsL_law (wsV RL 230 RX12 yX12_stepsToEnd wsX12_stepsToEnd) := goodIn_app (goodIn_of _ (by decide +kernel)) ggL_law_X12_stepsToEnd
set_option maxRecDepth 20000 in
theorem ggL_law_L_cutBehind : GoodIn wsL_law wsL_cutBehind := goodIn_ca (gIn_law (goodIn_s _ [(1537, 1), (208, 1), (1538, 3), (2, 1), (1541, 1), (48, 1), (32, 1), (39, 1), (843, 1), (1513, 4), (213, 2), (1517, 4), (38, 1), (1521, 1), (635, 2), (37, 1), (637, 1), (432, 1), (434, 2), (95, 4), (421, 7), (418, 3), (858, 4), (672, 3), (47, 1), (675, 8), (112, 1), (683, 4), (260, 2), (687, 3), (31, 1), (690, 1), (86, 1), (252, 1), (254, 1), (691, 4), (108, 2), (111, 1), (695, 4), (110, 1), (699, 1), (438, 3), (700, 4), (656, 2), (182, 2), (704, 4), (113, 1), (708, 9), (781, 12), (769, 8), (838, 5), (844, 1), (647, 1), (845, 13), (1739, 18), (1847, 12), (1837, 7), (1825, 12)] rfl (by decide +kernel))) (goodIn_sub (fun _ h => List.mem_append_left _ (List.mem_append_right _ h)) (by decide +kernel))
set_option maxRecDepth 20000 in
theorem gL_law_L_cutBehind : GoodIn wsL_law (va_wsS RL 231 yL_cutBehind wsL_cutBehind) := goodIn_app (goodIn_of _ (by decide +kernel)) ggL_law_L_cutBehind
set_option maxRecDepth 20000 in
theorem ggL_law_X12_cutBehind : GoodIn wsL_law wsX12_cutBehind := gIn_law (goodIn_s _ [(1545, 1), (1526, 1), (219, 2), (5, 1), (221, 1), (189, 8), (1527, 4), (145, 1), (141, 1), (1094, 4), (1090, 4), (1050, 4), (1042, 8), (1038, 4), (1010, 8), (1054, 4), (986, 4), (1058, 4), (1002, 4), (998, 4), (1034, 4), (1006, 4), (1030, 4), (1074, 16), (1531, 4), (1757, 48)] rfl (by decide +kernel))
set_option maxRecDepth 20000 in
theorem gL_law_X12_cutBehind : GoodIn wsL_law (wsV RL 233 RX12 yX12_cutBehind wsX12_cutBehind) := goodIn_app (goodIn_of _ (by decide +kernel)) ggL_law_X12_cutBehind
set_option maxRecDepth 20000 in
theorem ggL_law_X11_events : GoodIn wsL_law wsX11_events := gIn_law (goodIn_s _ [(1549, 1), (38, 1), (1550, 1), (1739, 18), (1837, 7)] rfl (by decide +kernel))
set_option maxRecDepth 20000 in
theorem gL_law_X11_events : GoodIn wsL_law (wsV RL 234 RX11 yX11_events wsX11_events) := goodIn_app (goodIn_of _ (by decide +kernel)) ggL_law_X11_events
set_option maxRecDepth 20000 in
theorem ggL_law_X12_events : GoodIn wsL_law wsX12_events := gIn_law (goodIn_s _ [(1554, 1), (193, 1), (1555, 3), (5, 1), (1558, 1), (141, 1), (1757, 48)] rfl (by decide +kernel))
set_option maxRecDepth 20000 in
theorem gL_law_X12_events : GoodIn wsL_law (wsV RL 237 RX12 yX12_events wsX12_events) := goodIn_app (goodIn_of _ (by decide +kernel)) ggL_law_X12_events
set_option maxRecDepth 20000 in
theorem ggL_law_L_event : GoodIn wsL_law wsL_event := goodIn_ca (goodIn_ca (gIn_law (goodIn_s _ [(1561, 1), (1205, 1), (208, 1), (1562, 3), (2, 1), (1565, 1), (759, 2), (213, 2), (38, 1), (1550, 1), (1566, 1), (647, 1), (260, 2), (1739, 18), (1837, 7)] rfl (by decide +kernel))) (goodIn_sub (fun _ h => List.mem_append_right _ h) (by decide +kernel))) (goodIn_sub (fun _ h => List.mem_append_left _ (List.mem_append_right _ h)) (by decide +kernel))
set_option maxRecDepth 20000 in
theorem gL_law_L_event : GoodIn wsL_law (va_wsS RL 238 yL_event wsL_event) := goodIn_app (goodIn_of _ (by decide +kernel)) ggL_law_L_event
set_option maxRecDepth 20000 in
theorem ggL_law_X12_event : GoodIn wsL_law wsX12_event := gIn_law (goodIn_s _ [(1570, 1), (1241, 1), (141, 1), (1555, 3), (5, 1), (1558, 1), (219, 3), (1246, 4), (193, 1), (1757, 48)] rfl (by decide +kernel))
set_option maxRecDepth 20000 in
theorem gL_law_X12_event : GoodIn wsL_law (wsV RL 240 RX12 yX12_event wsX12_event) := goodIn_app (goodIn_of _ (by decide +kernel)) ggL_law_X12_event
set_option maxRecDepth 20000 in
theorem ggL_law_L_shrink : GoodIn wsL_law wsL_shrink := goodIn_ca (gIn_law (goodIn_s _ [(1573, 1), (169, 1), (1574, 3), (2, 1), (1577, 1), (174, 2), (44, 1), (38, 1), (663, 4), (662, 1), (52, 1), (667, 5), (48, 1), (32, 1), (672, 3), (47, 1), (675, 8), (112, 1), (683, 3), (37, 1), (686, 1), (96, 1), (432, 1), (260, 2), (687, 3), (31, 1), (690, 1), (86, 1), (252, 1), (254, 1), (691, 4), (108, 2), (111, 1), (695, 4), (110, 1), (699, 1), (438, 3), (700, 4), (656, 2), (182, 2), (704, 4), (113, 1), (708, 12), (51, 1), (720, 1), (117, 1), (721, 11), (118, 1), (732, 9), (624, 3), (43, 1), (627, 2), (445, 1), (629, 1), (424, 3), (630, 4), (104, 1), (634, 4), (434, 2), (95, 1), (97, 2), (421, 3), (427, 1), (418, 3), (818, 4), (229, 1), (822, 5), (119, 1), (827, 7), (745, 1), (1739, 18), (1837, 7), (1859, 5), (1847, 12), (1825, 12), (1844, 3)] rfl (by decide +kernel))) (goodIn_sub (fun _ h => List.mem_append_left _ (List.mem_append_left _ (List.mem_append_right _ h))) (by decide +kernel))
set_option maxRecDepth 20000 in
theorem gL_law_L_shrink : GoodIn wsL_law (va_wsS RL 241 yL_shrink wsL_shrink) := goodIn_app (goodIn_of _ (by decide +kernel)) ggL_law_L_shrink
