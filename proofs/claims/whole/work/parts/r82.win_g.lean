/-! ===== the law's words stand in the tables (7) ===== -/
set_option maxRecDepth 20000 in
theorem win_49 : ∀ w ∈ wsL_law0_r49, w ∈ lw_tbl := fun w h => (goodIn_r wsL_law0_r49 [1814, 1385, 1386, 1387, 1388, 1389, 1390, 1391, 304, 311, 316, 318, 414, 1392, 1393, 1394, 1395, 1396, 1407, 1397, 1399, 55, 1400, 1401] (by decide +kernel) (by decide +kernel) w h).1
set_option maxRecDepth 20000 in
theorem win_50 : ∀ w ∈ wsL_law0_r50, w ∈ lw_tbl := fun w h => (goodIn_r wsL_law0_r50 [1402, 172, 1403, 1404, 1405, 1406, 1929, 1930, 1931, 1932, 1933, 1942, 1944, 86, 1945, 1950, 1952, 88, 1953, 1958, 1960, 90, 1961, 1962] (by decide +kernel) (by decide +kernel) w h).1
set_option maxRecDepth 20000 in
theorem win_51 : ∀ w ∈ wsL_law0_r51, w ∈ lw_tbl := fun w h => (goodIn_r wsL_law0_r51 [1963, 1964, 1409, 1410, 1411, 1412, 1413, 1414, 1415, 1416, 322, 1417, 1419, 56, 1420, 1965, 1966, 1967, 1968, 1969, 1971, 91, 1972, 1422] (by decide +kernel) (by decide +kernel) w h).1
set_option maxRecDepth 20000 in
theorem win_52 : ∀ w ∈ wsL_law0_r52, w ∈ lw_tbl := fun w h => (goodIn_r wsL_law0_r52 [1423, 1424, 1425, 1426, 1427, 1428, 327, 332, 337, 697, 699, 5, 700, 1973, 1974, 1975, 1976, 1981, 1977, 1979, 92, 1980, 1982, 1984] (by decide +kernel) (by decide +kernel) w h).1
set_option maxRecDepth 20000 in
theorem win_53 : ∀ w ∈ wsL_law0_r53, w ∈ lw_tbl := fun w h => (goodIn_r wsL_law0_r53 [93, 1985, 1431, 1432, 1433, 1434, 1435, 1436, 1437, 1438, 1986, 1987, 1988, 1989, 1990, 1992, 94, 1993, 1439, 1440, 1441, 1442, 1443, 1444] (by decide +kernel) (by decide +kernel) w h).1
set_option maxRecDepth 20000 in
theorem win_54 : ∀ w ∈ wsL_law0_r54, w ∈ lw_tbl := fun w h => (goodIn_r wsL_law0_r54 [1445, 542, 1994, 1995, 1996, 1997, 1446, 1447, 1448, 1449, 1450, 1451, 1452, 2006, 2007, 2008, 2009, 613, 614, 615, 616, 2010, 2011, 2012] (by decide +kernel) (by decide +kernel) w h).1
set_option maxRecDepth 20000 in
theorem win_55 : ∀ w ∈ wsL_law0_r55, w ∈ lw_tbl := fun w h => (goodIn_r wsL_law0_r55 [2013, 1453, 1454, 1455, 1456, 1457, 1458, 1459, 2014, 2015, 2016, 2017, 1460, 1461, 1462, 1463, 1464, 1465, 1466, 452, 450, 1467, 1468, 1469] (by decide +kernel) (by decide +kernel) w h).1
set_option maxRecDepth 20000 in
theorem win_56 : ∀ w ∈ wsL_law0_r56, w ∈ lw_tbl := fun w h => (goodIn_r wsL_law0_r56 [1470, 1471, 1473, 1475, 57, 1476, 702, 2018, 2019, 2020, 2021, 2026, 2035, 2037, 100, 2038, 2039, 2041, 101, 2042, 652, 653, 654, 655] (by decide +kernel) (by decide +kernel) w h).1
