/-! ===== the law's words stand in the tables (2) ===== -/
set_option maxRecDepth 20000 in
theorem win_9 : ∀ w ∈ wsL_law0_r9, w ∈ lw_tbl := fun w h => (goodIn_r wsL_law0_r9 [1795, 1639, 1796, 1797, 1798, 1799, 1801, 62, 1802, 1784, 1785, 1786, 1787, 994, 995, 996, 997, 998, 999, 1000, 1001, 1002, 163, 1803] (by decide +kernel) (by decide +kernel) w h).1
set_option maxRecDepth 20000 in
theorem win_10 : ∀ w ∈ wsL_law0_r10, w ∈ lw_tbl := fun w h => (goodIn_r wsL_law0_r10 [1804, 1805, 1806, 1807, 1808, 1809, 1018, 1019, 1020, 1021, 1022, 1023, 1024, 298, 1025, 1026, 1027, 1028, 190, 191, 192, 195, 203, 204] (by decide +kernel) (by decide +kernel) w h).1
set_option maxRecDepth 20000 in
theorem win_11 : ∀ w ∈ wsL_law0_r11, w ∈ lw_tbl := fun w h => (goodIn_r wsL_law0_r11 [1029, 1030, 1031, 1032, 242, 194, 1033, 1034, 1035, 1036, 293, 299, 309, 313, 315, 317, 1037, 1038, 1039, 1040, 629, 630, 1042, 1043] (by decide +kernel) (by decide +kernel) w h).1
set_option maxRecDepth 20000 in
theorem win_12 : ∀ w ∈ wsL_law0_r12, w ∈ lw_tbl := fun w h => (goodIn_r wsL_law0_r12 [1044, 1045, 1046, 1047, 1048, 1050, 22, 1051, 197, 1052, 1053, 1054, 1055, 1056, 1057, 1058, 1060, 23, 1061, 200, 1062, 1063, 1064, 1065] (by decide +kernel) (by decide +kernel) w h).1
set_option maxRecDepth 20000 in
theorem win_13 : ∀ w ∈ wsL_law0_r13, w ∈ lw_tbl := fun w h => (goodIn_r wsL_law0_r13 [1067, 24, 1068, 1070, 1071, 1072, 1073, 1074, 1075, 1076, 164, 1077, 2351, 1078, 1079, 1080, 1081, 1082, 2352, 1084, 1085, 1086, 1087, 1088] (by decide +kernel) (by decide +kernel) w h).1
set_option maxRecDepth 20000 in
theorem win_14 : ∀ w ∈ wsL_law0_r14, w ∈ lw_tbl := fun w h => (goodIn_r wsL_law0_r14 [1089, 1090, 1091, 1092, 1093, 165, 1094, 1095, 1096, 1097, 1098, 1100, 1101, 166, 1102, 1103, 1104, 167, 1105, 1106, 1107, 1108, 1109, 1110] (by decide +kernel) (by decide +kernel) w h).1
set_option maxRecDepth 20000 in
theorem win_15 : ∀ w ∈ wsL_law0_r15, w ∈ lw_tbl := fun w h => (goodIn_r wsL_law0_r15 [1111, 1112, 1113, 1114, 1115, 1116, 1118, 1120, 1122, 1124, 25, 1125, 297, 196, 199, 1126, 1127, 1128, 1129, 1130, 1131, 1132, 1133, 1134] (by decide +kernel) (by decide +kernel) w h).1
set_option maxRecDepth 20000 in
theorem win_16 : ∀ w ∈ wsL_law0_r16, w ∈ lw_tbl := fun w h => (goodIn_r wsL_law0_r16 [1135, 1136, 1137, 1138, 1139, 1140, 887, 888, 889, 1141, 1142, 1143, 1144, 1145, 1146, 1147, 1148, 1151, 1153, 26, 1154, 303, 1155, 1156] (by decide +kernel) (by decide +kernel) w h).1
