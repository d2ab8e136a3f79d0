/-! ===== the law's words stand in the tables (5) ===== -/
set_option maxRecDepth 20000 in
theorem win_33 : ∀ w ∈ wsL_law0_r33, w ∈ lw_tbl := fun w h => (goodIn_r wsL_law0_r33 [1331, 765, 766, 767, 768, 769, 771, 9, 772, 835, 750, 751, 752, 753, 754, 755, 756, 757, 759, 8, 760, 761, 762, 763] (by decide +kernel) (by decide +kernel) w h).1
set_option maxRecDepth 20000 in
theorem win_34 : ∀ w ∈ wsL_law0_r34, w ∈ lw_tbl := fun w h => (goodIn_r wsL_law0_r34 [764, 1332, 1334, 46, 1335, 777, 779, 10, 780, 1336, 1338, 47, 1339, 1340, 1342, 48, 1343, 1344, 1346, 49, 1347, 1348, 1350, 50] (by decide +kernel) (by decide +kernel) w h).1
set_option maxRecDepth 20000 in
theorem win_35 : ∀ w ∈ wsL_law0_r35, w ∈ lw_tbl := fun w h => (goodIn_r wsL_law0_r35 [1351, 374, 1352, 1354, 51, 1355, 1356, 1357, 1358, 1359, 491, 1360, 1361, 1362, 1363, 490, 492, 1364, 1365, 1367, 52, 1368, 854, 856] (by decide +kernel) (by decide +kernel) w h).1
set_option maxRecDepth 20000 in
theorem win_36 : ∀ w ∈ wsL_law0_r36, w ∈ lw_tbl := fun w h => (goodIn_r wsL_law0_r36 [18, 857, 448, 439, 441, 858, 859, 860, 861, 862, 863, 865, 866, 867, 868, 869, 643, 644, 850, 852, 17, 853, 782, 784] (by decide +kernel) (by decide +kernel) w h).1
set_option maxRecDepth 20000 in
theorem win_37 : ∀ w ∈ wsL_law0_r37, w ∈ lw_tbl := fun w h => (goodIn_r wsL_law0_r37 [11, 785, 786, 787, 788, 789, 791, 516, 518, 429, 790, 792, 794, 12, 795, 443, 432, 798, 799, 801, 13, 802, 486, 810] (by decide +kernel) (by decide +kernel) w h).1
set_option maxRecDepth 20000 in
theorem win_38 : ∀ w ∈ wsL_law0_r38, w ∈ lw_tbl := fun w h => (goodIn_r wsL_law0_r38 [812, 14, 813, 821, 814, 816, 15, 817, 818, 819, 820, 1369, 1371, 53, 1372, 514, 1373, 1375, 54, 1376, 544, 379, 617, 618] (by decide +kernel) (by decide +kernel) w h).1
set_option maxRecDepth 20000 in
theorem win_39 : ∀ w ∈ wsL_law0_r39, w ∈ lw_tbl := fun w h => (goodIn_r wsL_law0_r39 [619, 620, 541, 634, 621, 623, 0, 624, 295, 540, 301, 325, 330, 335, 625, 635, 637, 1, 638, 543, 645, 647, 2, 648] (by decide +kernel) (by decide +kernel) w h).1
set_option maxRecDepth 20000 in
theorem win_40 : ∀ w ∈ wsL_law0_r40, w ∈ lw_tbl := fun w h => (goodIn_r wsL_law0_r40 [649, 881, 2297, 2298, 2299, 2300, 1680, 1681, 2301, 2303, 137, 2304, 2305, 2307, 138, 2308, 2309, 2310, 2311, 2312, 2313, 2314, 2315, 2316] (by decide +kernel) (by decide +kernel) w h).1
