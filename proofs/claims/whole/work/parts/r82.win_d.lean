/-! ===== the law's words stand in the tables (4) ===== -/
set_option maxRecDepth 20000 in
theorem win_25 : ∀ w ∈ wsL_law0_r25, w ∈ lw_tbl := fun w h => (goodIn_r wsL_law0_r25 [1215, 1216, 1217, 1218, 1219, 1221, 32, 1222, 1224, 1225, 1227, 33, 1228, 273, 1229, 1231, 34, 1232, 1234, 1243, 1245, 35, 1246, 201] (by decide +kernel) (by decide +kernel) w h).1
set_option maxRecDepth 20000 in
theorem win_26 : ∀ w ∈ wsL_law0_r26, w ∈ lw_tbl := fun w h => (goodIn_r wsL_law0_r26 [271, 1247, 1249, 1250, 1251, 1252, 1253, 1255, 36, 1256, 1257, 1259, 37, 1260, 1261, 1263, 38, 1264, 198, 1265, 1267, 39, 1268, 1269] (by decide +kernel) (by decide +kernel) w h).1
set_option maxRecDepth 20000 in
theorem win_27 : ∀ w ∈ wsL_law0_r27, w ∈ lw_tbl := fun w h => (goodIn_r wsL_law0_r27 [836, 837, 838, 839, 412, 849, 840, 842, 16, 843, 844, 845, 846, 847, 1271, 1273, 40, 1274, 1275, 270, 263, 265, 267, 701] (by decide +kernel) (by decide +kernel) w h).1
set_option maxRecDepth 20000 in
theorem win_28 : ∀ w ∈ wsL_law0_r28, w ∈ lw_tbl := fun w h => (goodIn_r wsL_law0_r28 [1276, 1277, 1278, 1279, 1281, 1282, 1283, 1284, 632, 633, 1286, 1288, 41, 1289, 371, 1290, 725, 726, 727, 494, 728, 730, 6, 731] (by decide +kernel) (by decide +kernel) w h).1
set_option maxRecDepth 20000 in
theorem win_29 : ∀ w ∈ wsL_law0_r29, w ∈ lw_tbl := fun w h => (goodIn_r wsL_law0_r29 [656, 657, 658, 659, 428, 306, 431, 433, 373, 435, 436, 660, 661, 662, 663, 665, 666, 667, 668, 669, 671, 3, 672, 296] (by decide +kernel) (by decide +kernel) w h).1
set_option maxRecDepth 20000 in
theorem win_30 : ∀ w ∈ wsL_law0_r30, w ∈ lw_tbl := fun w h => (goodIn_r wsL_law0_r30 [383, 378, 321, 673, 674, 675, 676, 677, 681, 683, 4, 684, 438, 302, 326, 331, 336, 685, 686, 687, 688, 732, 733, 734] (by decide +kernel) (by decide +kernel) w h).1
set_option maxRecDepth 20000 in
theorem win_31 : ∀ w ∈ wsL_law0_r31, w ∈ lw_tbl := fun w h => (goodIn_r wsL_law0_r31 [735, 300, 382, 324, 329, 334, 736, 737, 740, 741, 742, 743, 493, 430, 744, 746, 7, 747, 444, 447, 434, 1291, 1293, 42] (by decide +kernel) (by decide +kernel) w h).1
set_option maxRecDepth 20000 in
theorem win_32 : ∀ w ∈ wsL_law0_r32, w ∈ lw_tbl := fun w h => (goodIn_r wsL_law0_r32 [1294, 781, 1295, 1297, 43, 1298, 308, 1299, 1300, 1301, 1302, 1303, 1305, 44, 1306, 1307, 171, 1323, 1325, 45, 1326, 1328, 1329, 1330] (by decide +kernel) (by decide +kernel) w h).1
