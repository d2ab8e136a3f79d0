set_option maxRecDepth 20000 in
theorem ggL_law_X12_whyNotShrink : GoodIn wsL_law wsX12_whyNotShrink := gIn_law (goodIn_s _ [(1439, 1), (193, 1), (978, 3), (5, 1), (981, 1), (141, 1), (982, 4), (149, 1), (986, 32), (1757, 48)] rfl (by decide +kernel))
set_option maxRecDepth 20000 in
theorem gL_law_X12_whyNotShrink : GoodIn wsL_law (wsV RL 203 RX12 yX12_whyNotShrink wsX12_whyNotShrink) := goodIn_app (goodIn_of _ (by decide +kernel)) ggL_law_X12_whyNotShrink
set_option maxRecDepth 20000 in
theorem ggL_law_L_mate : GoodIn wsL_law wsL_mate := goodIn_ca (gIn_law (goodIn_s _ [(1442, 1), (1205, 1), (1443, 3), (2, 1), (1446, 1), (52, 1), (1447, 1), (755, 6), (741, 4), (38, 1), (745, 1), (684, 2), (37, 1), (686, 1), (96, 1), (432, 1), (260, 2), (668, 4), (48, 1), (32, 1), (672, 3), (47, 1), (675, 8), (112, 1), (683, 1), (687, 3), (31, 1), (690, 1), (86, 1), (252, 1), (254, 1), (691, 4), (108, 2), (111, 1), (695, 4), (110, 1), (699, 1), (438, 3), (700, 4), (656, 2), (182, 2), (704, 4), (113, 1), (708, 12), (51, 1), (720, 1), (117, 1), (721, 11), (118, 1), (732, 9), (647, 1), (1739, 18), (1859, 5), (1837, 7), (1847, 12), (1825, 12)] rfl (by decide +kernel))) (goodIn_sub (fun _ h => List.mem_append_right _ h) (by decide +kernel))
set_option maxRecDepth 20000 in
theorem gL_law_L_mate : GoodIn wsL_law (va_wsS RL 204 yL_mate wsL_mate) := goodIn_app (goodIn_of _ (by decide +kernel)) ggL_law_L_mate
set_option maxRecDepth 20000 in
theorem ggL_law_X12_mate : GoodIn wsL_law wsX12_mate := gIn_law (goodIn_s _ [(1451, 1), (149, 1), (1022, 3), (5, 1), (1025, 1), (986, 4), (141, 1), (219, 3), (189, 8), (982, 4), (990, 28), (1757, 48)] rfl (by decide +kernel))
set_option maxRecDepth 20000 in
theorem gL_law_X12_mate : GoodIn wsL_law (wsV RL 206 RX12 yX12_mate wsX12_mate) := goodIn_app (goodIn_of _ (by decide +kernel)) ggL_law_X12_mate
set_option maxRecDepth 20000 in
theorem ggL_law_L_gain : GoodIn wsL_law wsL_gain := goodIn_ca (gIn_law (goodIn_s _ [(1454, 1), (1205, 1), (1455, 3), (2, 1), (1458, 1), (48, 1), (32, 1), (38, 1), (755, 6), (741, 5), (684, 2), (37, 1), (686, 1), (96, 1), (432, 1), (260, 2), (761, 4), (746, 5), (672, 3), (47, 1), (675, 8), (112, 1), (683, 1), (687, 3), (31, 1), (690, 1), (86, 1), (252, 1), (254, 1), (691, 4), (108, 2), (111, 1), (695, 4), (110, 1), (699, 1), (438, 3), (700, 4), (656, 2), (182, 2), (704, 4), (113, 1), (708, 9), (845, 1), (790, 3), (1739, 18), (1837, 7), (1825, 12), (1847, 12)] rfl (by decide +kernel))) (goodIn_sub (fun _ h => List.mem_append_right _ h) (by decide +kernel))
set_option maxRecDepth 20000 in
theorem gL_law_L_gain : GoodIn wsL_law (va_wsS RL 207 yL_gain wsL_gain) := goodIn_app (goodIn_of _ (by decide +kernel)) ggL_law_L_gain
set_option maxRecDepth 20000 in
theorem ggL_law_X12_gain : GoodIn wsL_law wsX12_gain := gIn_law (goodIn_s _ [(1462, 1), (1018, 3), (5, 1), (1021, 5), (986, 4), (141, 1), (219, 3), (1026, 4), (189, 8), (1058, 4), (1002, 4), (998, 4), (1757, 48)] rfl (by decide +kernel))
set_option maxRecDepth 20000 in
theorem gL_law_X12_gain : GoodIn wsL_law (wsV RL 209 RX12 yX12_gain wsX12_gain) := goodIn_app (goodIn_of _ (by decide +kernel)) ggL_law_X12_gain
set_option maxRecDepth 20000 in
theorem ggL_law_L_whyNotMove : GoodIn wsL_law wsL_whyNotMove := goodIn_ca (gIn_law (goodIn_s _ [(1465, 1), (1205, 1), (1466, 1), (752, 2), (2, 1), (754, 1), (48, 1), (32, 1), (38, 1), (755, 6), (741, 5), (684, 2), (37, 1), (686, 1), (96, 1), (432, 1), (260, 2), (761, 4), (746, 5), (672, 3), (47, 1), (675, 8), (112, 1), (683, 1), (687, 3), (31, 1), (690, 1), (86, 1), (252, 1), (254, 1), (691, 4), (108, 2), (111, 1), (695, 4), (110, 1), (699, 1), (438, 3), (700, 4), (656, 2), (182, 2), (704, 4), (113, 1), (708, 9), (765, 12), (1739, 18), (1837, 7), (1825, 12), (1847, 12)] rfl (by decide +kernel))) (goodIn_sub (fun _ h => List.mem_append_right _ h) (by decide +kernel))
set_option maxRecDepth 20000 in
theorem gL_law_L_whyNotMove : GoodIn wsL_law (va_wsS RL 210 yL_whyNotMove wsL_whyNotMove) := goodIn_app (goodIn_of _ (by decide +kernel)) ggL_law_L_whyNotMove
set_option maxRecDepth 20000 in
theorem ggL_law_X12_whyNotMove : GoodIn wsL_law wsX12_whyNotMove := gIn_law (goodIn_s _ [(1470, 1), (1018, 3), (5, 1), (1021, 5), (986, 4), (141, 1), (219, 3), (1026, 4), (189, 8), (1030, 4), (1002, 4), (998, 4), (1034, 4), (1006, 4), (1038, 4), (1010, 8), (1042, 8), (1757, 48)] rfl (by decide +kernel))
set_option maxRecDepth 20000 in
theorem gL_law_X12_whyNotMove : GoodIn wsL_law (wsV RL 212 RX12 yX12_whyNotMove wsX12_whyNotMove) := goodIn_app (goodIn_of _ (by decide +kernel)) ggL_law_X12_whyNotMove
set_option maxRecDepth 20000 in
theorem ggL_law_L_debtsIf : GoodIn wsL_law wsL_debtsIf := goodIn_ca (gIn_law (goodIn_s _ [(1473, 1), (1205, 1), (1474, 3), (2, 1), (1477, 1), (48, 1), (32, 1), (38, 1), (755, 6), (741, 5), (684, 2), (37, 1), (686, 1), (96, 1), (432, 1), (260, 2), (761, 4), (746, 5), (672, 3), (47, 1), (675, 8), (112, 1), (683, 1), (687, 3), (31, 1), (690, 1), (86, 1), (252, 1), (254, 1), (691, 4), (108, 2), (111, 1), (695, 4), (110, 1), (699, 1), (438, 3), (700, 4), (656, 2), (182, 2), (704, 4), (113, 1), (708, 9), (1478, 1), (770, 3), (1739, 18), (1837, 7), (1825, 12), (1847, 12)] rfl (by decide +kernel))) (goodIn_sub (fun _ h => List.mem_append_right _ h) (by decide +kernel))
set_option maxRecDepth 20000 in
theorem gL_law_L_debtsIf : GoodIn wsL_law (va_wsS RL 213 yL_debtsIf wsL_debtsIf) := goodIn_app (goodIn_of _ (by decide +kernel)) ggL_law_L_debtsIf
set_option maxRecDepth 20000 in
theorem ggL_law_X12_debtsIf : GoodIn wsL_law wsX12_debtsIf := gIn_law (goodIn_s _ [(1482, 1), (1018, 3), (5, 1), (1021, 5), (986, 4), (141, 1), (219, 3), (1026, 4), (189, 8), (1034, 4), (1002, 4), (998, 4), (1006, 4), (1038, 4), (1010, 8), (1757, 48)] rfl (by decide +kernel))
set_option maxRecDepth 20000 in
theorem gL_law_X12_debtsIf : GoodIn wsL_law (wsV RL 215 RX12 yX12_debtsIf wsX12_debtsIf) := goodIn_app (goodIn_of _ (by decide +kernel)) ggL_law_X12_debtsIf
set_option maxRecDepth 20000 in
theorem ggL_law_X11_nextStep : GoodIn wsL_law wsX11_nextStep := gIn_law (goodIn_s _ [(780, 1), (48, 1), (32, 1), (38, 1), (672, 3), (47, 1), (675, 8), (112, 1), (683, 3), (37, 1), (686, 1), (96, 1), (432, 1), (260, 1), (2, 1), (261, 1), (687, 3), (31, 1), (690, 1), (86, 1), (252, 1), (254, 1), (691, 4), (108, 2), (111, 1), (695, 4), (110, 1), (699, 1), (438, 3), (700, 4), (656, 2), (182, 2), (704, 4), (113, 1), (708, 9), (781, 12), (769, 8), (1739, 18), (1847, 12), (1825, 19)] rfl (by decide +kernel))
set_option maxRecDepth 20000 in
theorem gL_law_X11_nextStep : GoodIn wsL_law (wsV RL 216 RX11 yX11_nextStep wsX11_nextStep) := goodIn_app (goodIn_of _ (by decide +kernel)) ggL_law_X11_nextStep
set_option maxRecDepth 20000 in
theorem ggL_law_X12_nextStep : GoodIn wsL_law wsX12_nextStep := gIn_law (goodIn_s _ [(1487, 1), (193, 1), (1050, 3), (5, 1), (1053, 1), (1042, 4), (141, 1), (1046, 4), (1038, 4), (1010, 8), (1054, 4), (986, 4), (1058, 4), (1002, 4), (998, 4), (1034, 4), (1006, 4), (194, 3), (1030, 4), (1757, 48)] rfl (by decide +kernel))
set_option maxRecDepth 20000 in
theorem gL_law_X12_nextStep : GoodIn wsL_law (wsV RL 219 RX12 yX12_nextStep wsX12_nextStep) := goodIn_app (goodIn_of _ (by decide +kernel)) ggL_law_X12_nextStep
set_option maxRecDepth 20000 in
theorem ggL_law_X11_bestDebts : GoodIn wsL_law wsX11_bestDebts := gIn_law (goodIn_s _ [(1491, 1), (56, 1), (1492, 1), (797, 3), (2, 1), (800, 1), (38, 1), (745, 1), (684, 2), (37, 1), (686, 1), (96, 1), (432, 1), (260, 2), (862, 4), (48, 1), (32, 1), (52, 1), (672, 3), (47, 1), (675, 8), (112, 1), (683, 1), (687, 3), (31, 1), (690, 1), (86, 1), (252, 1), (254, 1), (691, 4), (108, 2), (111, 1), (695, 4), (110, 1), (699, 1), (438, 3), (700, 4), (656, 2), (182, 2), (704, 4), (113, 1), (708, 12), (51, 1), (720, 1), (117, 1), (721, 7), (866, 3), (55, 1), (869, 1), (123, 1), (870, 4), (124, 1), (874, 5), (125, 1), (879, 8), (421, 7), (418, 3), (887, 12), (1739, 18), (1864, 5), (1837, 7), (1847, 12), (1825, 12), (1859, 5)] rfl (by decide +kernel))
set_option maxRecDepth 20000 in
theorem gL_law_X11_bestDebts : GoodIn wsL_law (wsV RL 220 RX11 yX11_bestDebts wsX11_bestDebts) := goodIn_app (goodIn_of _ (by decide +kernel)) ggL_law_X11_bestDebts
