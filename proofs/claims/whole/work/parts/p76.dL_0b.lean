set_option maxRecDepth 20000 in
theorem ggL_law_X11_init : GoodIn wsL_law wsX11_init := gIn_law (goodIn_s _ [(9, 78), (6, 1), (87, 45), (1805, 12), (1739, 18), (1817, 58)] rfl (by decide +kernel))
set_option maxRecDepth 20000 in
theorem gL_law_X11_init : GoodIn wsL_law (wsX11_init) := ggL_law_X11_init
set_option maxRecDepth 20000 in
theorem ggL_law_X12_init : GoodIn wsL_law wsX12_init := gIn_law (goodIn_s _ [(134, 2), (11, 2), (61, 1), (136, 10), (6, 1), (146, 18), (5, 1), (164, 1), (1757, 48)] rfl (by decide +kernel))
set_option maxRecDepth 20000 in
theorem gL_law_X12_init : GoodIn wsL_law (wsX12_init) := ggL_law_X12_init
set_option maxRecDepth 20000 in
theorem ggL_law_L_feed : GoodIn wsL_law wsL_feed := goodIn_ca (gIn_law (goodIn_s _ [(168, 5), (2, 1), (173, 3), (16, 1), (176, 4), (15, 1), (180, 1), (66, 1), (181, 3), (1739, 18), (1805, 12)] rfl (by decide +kernel))) (goodIn_sub (fun _ h => List.mem_append_left _ (List.mem_append_left _ (List.mem_append_right _ h))) (by decide +kernel))
set_option maxRecDepth 20000 in
theorem gL_law_L_feed : GoodIn wsL_law (va_wsS RL 116 yL_feed wsL_feed) := goodIn_app (goodIn_of _ (by decide +kernel)) ggL_law_L_feed
set_option maxRecDepth 20000 in
theorem ggL_law_X12_feed : GoodIn wsL_law wsX12_feed := gIn_law (goodIn_s _ [(187, 5), (5, 1), (192, 9), (136, 1), (1757, 48)] rfl (by decide +kernel))
set_option maxRecDepth 20000 in
theorem gL_law_X12_feed : GoodIn wsL_law (wsV RL 121 RX12 yX12_feed wsX12_feed) := goodIn_app (goodIn_of _ (by decide +kernel)) ggL_law_X12_feed
set_option maxRecDepth 20000 in
theorem ggL_law_X12_thrown : GoodIn wsL_law wsX12_thrown := gIn_law (goodIn_s _ [(204, 1), (193, 1), (1757, 48)] rfl (by decide +kernel))
set_option maxRecDepth 20000 in
theorem gL_law_X12_thrown : GoodIn wsL_law (wsV RL 122 RX12 yX12_thrown wsX12_thrown) := goodIn_app (goodIn_of _ (by decide +kernel)) ggL_law_X12_thrown
set_option maxRecDepth 20000 in
theorem ggL_law_L_truncate : GoodIn wsL_law wsL_truncate := goodIn_ca (gIn_law (goodIn_s _ [(207, 5), (2, 1), (212, 3), (16, 1), (176, 1), (1739, 18), (1805, 12)] rfl (by decide +kernel))) (goodIn_sub (fun _ h => List.mem_append_left _ (List.mem_append_right _ h)) (by decide +kernel))
set_option maxRecDepth 20000 in
theorem gL_law_L_truncate : GoodIn wsL_law (va_wsS RL 125 yL_truncate wsL_truncate) := goodIn_app (goodIn_of _ (by decide +kernel)) ggL_law_L_truncate
set_option maxRecDepth 20000 in
theorem ggL_law_X12_truncate : GoodIn wsL_law wsX12_truncate := gIn_law (goodIn_s _ [(218, 1), (188, 1), (219, 2), (5, 1), (221, 1), (189, 8), (1757, 48)] rfl (by decide +kernel))
set_option maxRecDepth 20000 in
theorem gL_law_X12_truncate : GoodIn wsL_law (wsV RL 128 RX12 yX12_truncate wsX12_truncate) := goodIn_app (goodIn_of _ (by decide +kernel)) ggL_law_X12_truncate
set_option maxRecDepth 20000 in
theorem ggL_law_L_readText : GoodIn wsL_law wsL_readText := goodIn_ca (gIn_law (goodIn_s _ [(224, 1), (208, 1), (225, 3), (2, 1), (228, 1), (213, 2), (16, 1), (20, 1), (33, 1), (32, 1), (38, 1), (44, 1), (229, 4), (15, 1), (233, 1), (181, 1), (234, 6), (67, 2), (240, 3), (19, 1), (243, 6), (31, 1), (249, 3), (86, 1), (252, 8), (66, 1), (260, 109), (87, 1), (369, 8), (88, 1), (182, 2), (377, 13), (89, 2), (390, 4), (91, 1), (394, 37), (37, 1), (431, 5), (95, 2), (436, 1), (97, 1), (437, 7), (43, 1), (444, 2), (1739, 18), (1825, 12), (1805, 13), (1837, 10)] rfl (by decide +kernel))) (goodIn_sub (fun _ h => List.mem_append_left _ (List.mem_append_right _ h)) (by decide +kernel))
set_option maxRecDepth 20000 in
theorem gL_law_L_readText : GoodIn wsL_law (va_wsS RL 129 yL_readText wsL_readText) := goodIn_app (goodIn_of _ (by decide +kernel)) ggL_law_L_readText
set_option maxRecDepth 20000 in
theorem ggL_law_X12_readText : GoodIn wsL_law wsX12_readText := gIn_law (goodIn_s _ [(449, 1), (148, 1), (146, 1), (450, 2), (141, 1), (144, 1), (452, 4), (5, 1), (456, 1), (188, 1), (457, 3), (137, 2), (460, 12), (136, 1), (472, 10), (161, 4), (482, 33), (219, 3), (515, 36), (139, 2), (189, 8), (1757, 48)] rfl (by decide +kernel))
set_option maxRecDepth 20000 in
theorem gL_law_X12_readText : GoodIn wsL_law (wsV RL 132 RX12 yX12_readText wsX12_readText) := goodIn_app (goodIn_of _ (by decide +kernel)) ggL_law_X12_readText
set_option maxRecDepth 20000 in
theorem ggL_law_L_runScript : GoodIn wsL_law wsL_runScript := goodIn_ca (goodIn_ca (gIn_law (goodIn_s _ [(553, 1), (208, 1), (554, 3), (2, 1), (557, 1), (213, 2), (16, 1), (24, 1), (28, 1), (32, 1), (44, 1), (38, 1), (230, 3), (15, 1), (233, 1), (181, 1), (234, 6), (67, 2), (558, 3), (23, 1), (561, 6), (27, 1), (567, 4), (257, 3), (66, 1), (260, 27), (571, 1), (352, 3), (572, 4), (75, 1), (576, 8), (79, 3), (182, 2), (584, 1), (356, 5), (585, 10), (292, 52), (595, 7), (370, 3), (602, 22), (362, 2), (31, 1), (364, 1), (250, 1), (365, 4), (87, 1), (624, 3), (43, 1), (627, 2), (445, 1), (629, 1), (424, 3), (630, 4), (104, 1), (634, 3), (37, 1), (637, 1), (432, 1), (434, 2), (95, 4), (421, 3), (427, 1), (418, 3), (638, 14), (82, 1), (652, 15), (52, 1), (667, 5), (48, 1), (672, 3), (47, 1), (675, 8), (112, 1), (683, 8), (86, 1), (252, 1), (254, 1), (691, 4), (108, 2), (111, 1), (695, 4), (110, 1), (699, 1), (438, 3), (700, 8), (113, 1), (708, 12), (51, 1), (720, 1), (117, 1), (721, 11), (118, 1), (732, 73), (229, 1), (805, 22), (119, 1), (827, 39), (56, 1), (866, 3), (55, 1), (869, 1), (123, 1), (870, 4), (124, 1), (874, 5), (125, 1), (879, 29), (60, 1), (908, 5), (59, 1), (913, 9), (129, 1), (922, 10), (130, 2), (932, 6), (1739, 18), (1805, 12), (1819, 6), (1818, 1), (1825, 12), (1844, 3), (1837, 7), (1859, 5), (1847, 12), (1864, 11)] rfl (by decide +kernel))) (goodIn_sub (fun _ h => List.mem_append_left _ (List.mem_append_right _ h)) (by decide +kernel))) (goodIn_sub (fun _ h => List.mem_append_right _ h) (by decide +kernel))
set_option maxRecDepth 20000 in
theorem gL_law_L_runScript : GoodIn wsL_law (va_wsS RL 133 yL_runScript wsL_runScript) := goodIn_app (goodIn_of _ (by decide +kernel)) ggL_law_L_runScript
set_option maxRecDepth 20000 in
theorem ggL_law_X12_runScript : GoodIn wsL_law wsX12_runScript := gIn_law (goodIn_s _ [(941, 3), (451, 1), (460, 1), (453, 3), (5, 1), (456, 1), (188, 1), (457, 3), (137, 2), (461, 11), (136, 1), (472, 6), (482, 4), (944, 4), (155, 3), (948, 11), (494, 1), (959, 1), (495, 4), (503, 4), (511, 4), (219, 3), (519, 8), (507, 4), (141, 1), (146, 1), (538, 8), (194, 3), (960, 4), (546, 5), (139, 2), (189, 5), (478, 4), (144, 1), (964, 4), (158, 2), (968, 18), (149, 1), (986, 116), (153, 1), (1102, 4), (151, 1), (150, 1), (1106, 6), (154, 1), (152, 1), (1112, 14), (535, 3), (1126, 12), (452, 1), (143, 1), (1757, 48)] rfl (by decide +kernel))
set_option maxRecDepth 20000 in
theorem gL_law_X12_runScript : GoodIn wsL_law (wsV RL 135 RX12 yX12_runScript wsX12_runScript) := goodIn_app (goodIn_of _ (by decide +kernel)) ggL_law_X12_runScript
set_option maxRecDepth 20000 in
theorem ggL_law_L_error : GoodIn wsL_law wsL_error := goodIn_ca (gIn_law (goodIn_s _ [(1140, 1), (208, 1), (1141, 3), (2, 1), (1144, 1), (213, 2), (16, 1), (1145, 3), (1739, 18), (1805, 12)] rfl (by decide +kernel))) (goodIn_sub (fun _ h => List.mem_append_left _ (List.mem_append_right _ h)) (by decide +kernel))
set_option maxRecDepth 20000 in
theorem gL_law_L_error : GoodIn wsL_law (va_wsS RL 136 yL_error wsL_error) := goodIn_app (goodIn_of _ (by decide +kernel)) ggL_law_L_error
