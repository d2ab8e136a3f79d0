set_option maxRecDepth 20000 in
theorem ggL_law_X12_error : GoodIn wsL_law wsX12_error := gIn_law (goodIn_s _ [(1151, 2), (550, 1), (139, 2), (219, 2), (5, 1), (221, 1), (189, 8), (1757, 48)] rfl (by decide +kernel))
set_option maxRecDepth 20000 in
theorem gL_law_X12_error : GoodIn wsL_law (wsV RL 138 RX12 yX12_error wsX12_error) := goodIn_app (goodIn_of _ (by decide +kernel)) ggL_law_X12_error
set_option maxRecDepth 20000 in
theorem ggL_law_L_setting : GoodIn wsL_law wsL_setting := goodIn_ca (gIn_law (goodIn_s _ [(1155, 1), (208, 1), (1156, 3), (2, 1), (1159, 1), (213, 2), (32, 1), (229, 1), (1160, 1), (750, 1), (1161, 1), (38, 1), (817, 1), (1162, 2), (662, 1), (44, 1), (1164, 2), (688, 2), (31, 1), (690, 1), (86, 1), (252, 1), (254, 1), (745, 1), (684, 2), (37, 1), (686, 1), (96, 1), (432, 1), (260, 2), (1166, 4), (250, 1), (1170, 1), (897, 1), (425, 1), (898, 1), (1171, 4), (251, 1), (386, 4), (89, 2), (1175, 7), (1739, 18), (1825, 22)] rfl (by decide +kernel))) (goodIn_sub (fun _ h => List.mem_append_left _ (List.mem_append_right _ h)) (by decide +kernel))
set_option maxRecDepth 20000 in
theorem gL_law_L_setting : GoodIn wsL_law (va_wsS RL 139 yL_setting wsL_setting) := goodIn_app (goodIn_of _ (by decide +kernel)) ggL_law_L_setting
set_option maxRecDepth 20000 in
theorem ggL_law_X12_setting : GoodIn wsL_law wsX12_setting := gIn_law (goodIn_s _ [(1185, 2), (141, 1), (452, 1), (219, 2), (5, 1), (221, 1), (189, 8), (1010, 8), (1187, 4), (986, 4), (1191, 4), (1122, 4), (1195, 4), (535, 3), (1199, 3), (1757, 48)] rfl (by decide +kernel))
set_option maxRecDepth 20000 in
theorem gL_law_X12_setting : GoodIn wsL_law (wsV RL 141 RX12 yX12_setting wsX12_setting) := goodIn_app (goodIn_of _ (by decide +kernel)) ggL_law_X12_setting
set_option maxRecDepth 20000 in
theorem ggL_law_L_weight : GoodIn wsL_law wsL_weight := goodIn_ca (gIn_law (goodIn_s _ [(1204, 5), (2, 1), (1209, 1), (32, 1), (1210, 5), (759, 2), (801, 4), (229, 1), (647, 1), (260, 2), (1739, 18), (1825, 12)] rfl (by decide +kernel))) (goodIn_sub (fun _ h => List.mem_append_right _ h) (by decide +kernel))
set_option maxRecDepth 20000 in
theorem gL_law_L_weight : GoodIn wsL_law (va_wsS RL 142 yL_weight wsL_weight) := goodIn_app (goodIn_of _ (by decide +kernel)) ggL_law_L_weight
set_option maxRecDepth 20000 in
theorem ggL_law_X12_weight : GoodIn wsL_law wsX12_weight := gIn_law (goodIn_s _ [(1218, 1), (141, 1), (1219, 3), (5, 1), (1222, 1), (219, 3), (189, 8), (1757, 48)] rfl (by decide +kernel))
set_option maxRecDepth 20000 in
theorem gL_law_X12_weight : GoodIn wsL_law (wsV RL 144 RX12 yX12_weight wsX12_weight) := goodIn_app (goodIn_of _ (by decide +kernel)) ggL_law_X12_weight
set_option maxRecDepth 20000 in
theorem ggL_law_L_edge : GoodIn wsL_law wsL_edge := goodIn_ca (goodIn_ca (gIn_law (goodIn_s _ [(1225, 1), (1205, 1), (208, 1), (1226, 3), (2, 1), (1229, 1), (759, 2), (213, 2), (32, 1), (1160, 1), (1230, 3), (647, 1), (260, 2), (1233, 4), (38, 1), (909, 1), (1739, 18), (1825, 19)] rfl (by decide +kernel))) (goodIn_sub (fun _ h => List.mem_append_right _ h) (by decide +kernel))) (goodIn_sub (fun _ h => List.mem_append_left _ (List.mem_append_right _ h)) (by decide +kernel))
set_option maxRecDepth 20000 in
theorem gL_law_L_edge : GoodIn wsL_law (va_wsS RL 145 yL_edge wsL_edge) := goodIn_app (goodIn_of _ (by decide +kernel)) ggL_law_L_edge
set_option maxRecDepth 20000 in
theorem ggL_law_X12_edge : GoodIn wsL_law wsX12_edge := gIn_law (goodIn_s _ [(1240, 2), (141, 1), (1242, 3), (5, 1), (1245, 1), (219, 3), (1246, 4), (193, 1), (1086, 4), (194, 3), (1757, 48)] rfl (by decide +kernel))
set_option maxRecDepth 20000 in
theorem gL_law_X12_edge : GoodIn wsL_law (wsV RL 148 RX12 yX12_edge wsX12_edge) := goodIn_app (goodIn_of _ (by decide +kernel)) ggL_law_X12_edge
set_option maxRecDepth 20000 in
theorem ggL_law_L_between : GoodIn wsL_law wsL_between := goodIn_ca (gIn_law (goodIn_s _ [(1252, 1), (1205, 1), (1253, 3), (2, 1), (1256, 1), (32, 1), (1232, 1), (1211, 4), (759, 2), (801, 4), (229, 1), (1257, 1), (383, 2), (31, 1), (385, 1), (251, 1), (386, 4), (89, 2), (260, 2), (647, 1), (1739, 18), (1825, 12)] rfl (by decide +kernel))) (goodIn_sub (fun _ h => List.mem_append_right _ h) (by decide +kernel))
set_option maxRecDepth 20000 in
theorem gL_law_L_between : GoodIn wsL_law (va_wsS RL 149 yL_between wsL_between) := goodIn_app (goodIn_of _ (by decide +kernel)) ggL_law_L_between
set_option maxRecDepth 20000 in
theorem ggL_law_X12_between : GoodIn wsL_law wsX12_between := gIn_law (goodIn_s _ [(1261, 1), (141, 1), (1262, 3), (5, 1), (1265, 1), (1219, 4), (219, 3), (189, 8), (527, 4), (1757, 48)] rfl (by decide +kernel))
set_option maxRecDepth 20000 in
theorem gL_law_X12_between : GoodIn wsL_law (wsV RL 151 RX12 yX12_between wsX12_between) := goodIn_app (goodIn_of _ (by decide +kernel)) ggL_law_X12_between
set_option maxRecDepth 20000 in
theorem ggL_law_L_flow : GoodIn wsL_law wsL_flow := goodIn_ca (gIn_law (goodIn_s _ [(1268, 1), (1205, 1), (1269, 3), (2, 1), (1272, 1), (60, 1), (32, 1), (1273, 1), (1211, 4), (759, 2), (801, 4), (229, 1), (910, 3), (59, 1), (913, 9), (129, 1), (922, 5), (438, 3), (260, 2), (656, 2), (927, 5), (130, 2), (182, 2), (856, 2), (932, 5), (424, 3), (1739, 18), (1869, 6), (1825, 12)] rfl (by decide +kernel))) (goodIn_sub (fun _ h => List.mem_append_right _ h) (by decide +kernel))
set_option maxRecDepth 20000 in
theorem gL_law_L_flow : GoodIn wsL_law (va_wsS RL 152 yL_flow wsL_flow) := goodIn_app (goodIn_of _ (by decide +kernel)) ggL_law_L_flow
set_option maxRecDepth 20000 in
theorem ggL_law_X12_flow : GoodIn wsL_law wsX12_flow := gIn_law (goodIn_s _ [(1277, 1), (1121, 1), (1262, 3), (5, 1), (1265, 1), (1219, 4), (141, 1), (219, 3), (189, 8), (1117, 4), (1116, 1), (1122, 4), (535, 3), (1126, 4), (1757, 48)] rfl (by decide +kernel))
set_option maxRecDepth 20000 in
theorem gL_law_X12_flow : GoodIn wsL_law (wsV RL 154 RX12 yX12_flow wsX12_flow) := goodIn_app (goodIn_of _ (by decide +kernel)) ggL_law_X12_flow
set_option maxRecDepth 20000 in
theorem ggL_law_L_side : GoodIn wsL_law wsL_side := goodIn_ca (gIn_law (goodIn_s _ [(1280, 1), (1205, 1), (1281, 3), (2, 1), (1284, 1), (60, 1), (32, 1), (908, 1), (1211, 4), (759, 2), (801, 4), (229, 1), (910, 3), (59, 1), (913, 9), (129, 1), (922, 5), (438, 3), (260, 2), (656, 2), (927, 5), (130, 2), (182, 2), (856, 2), (932, 5), (424, 3), (1739, 18), (1869, 6), (1825, 12)] rfl (by decide +kernel))) (goodIn_sub (fun _ h => List.mem_append_right _ h) (by decide +kernel))
set_option maxRecDepth 20000 in
theorem gL_law_L_side : GoodIn wsL_law (va_wsS RL 155 yL_side wsL_side) := goodIn_app (goodIn_of _ (by decide +kernel)) ggL_law_L_side
