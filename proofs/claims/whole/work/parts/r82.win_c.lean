/-! ===== the law's words stand in the tables (3) ===== -/
set_option maxRecDepth 20000 in
theorem win_17 : ∀ w ∈ wsL_law0_r17, w ∈ lw_tbl := fun w h => (goodIn_r wsL_law0_r17 [1157, 1158, 1159, 703, 704, 705, 1160, 1161, 1162, 1163, 1165, 1167, 27, 1168, 307, 1169, 1171, 28, 1172, 1174, 1176, 29, 1177, 310] (by decide +kernel) (by decide +kernel) w h).1
set_option maxRecDepth 20000 in
theorem win_18 : ∀ w ∈ wsL_law0_r18, w ∈ lw_tbl := fun w h => (goodIn_r wsL_law0_r18 [1179, 1181, 30, 1182, 314, 906, 907, 908, 909, 910, 809, 808, 168, 804, 805, 806, 650, 169, 651, 807, 1184, 1185, 1186, 1187] (by decide +kernel) (by decide +kernel) w h).1
set_option maxRecDepth 20000 in
theorem win_19 : ∀ w ∈ wsL_law0_r19, w ∈ lw_tbl := fun w h => (goodIn_r wsL_law0_r19 [370, 312, 372, 375, 294, 1188, 626, 170, 627, 1189, 1190, 1191, 1192, 413, 1835, 1836, 1837, 1838, 1664, 1645, 1662, 1839, 1841, 65] (by decide +kernel) (by decide +kernel) w h).1
set_option maxRecDepth 20000 in
theorem win_20 : ∀ w ∈ wsL_law0_r20, w ∈ lw_tbl := fun w h => (goodIn_r wsL_law0_r20 [1842, 1642, 1643, 1647, 1682, 1843, 1845, 66, 1846, 1644, 1653, 1646, 1847, 1849, 67, 1850, 1851, 1852, 1853, 1854, 1855, 1856, 1857, 1859] (by decide +kernel) (by decide +kernel) w h).1
set_option maxRecDepth 20000 in
theorem win_21 : ∀ w ∈ wsL_law0_r21, w ∈ lw_tbl := fun w h => (goodIn_r wsL_law0_r21 [68, 1860, 1861, 1863, 69, 1864, 1865, 1867, 70, 1868, 1869, 1890, 1907, 1915, 1916, 1870, 1872, 71, 1873, 1874, 1876, 72, 1877, 1878] (by decide +kernel) (by decide +kernel) w h).1
set_option maxRecDepth 20000 in
theorem win_22 : ∀ w ∈ wsL_law0_r22, w ∈ lw_tbl := fun w h => (goodIn_r wsL_law0_r22 [1880, 73, 1881, 1882, 1884, 74, 1885, 1886, 1888, 75, 1889, 1891, 1893, 76, 1894, 1895, 1897, 77, 1898, 1899, 1901, 78, 1902, 1903] (by decide +kernel) (by decide +kernel) w h).1
set_option maxRecDepth 20000 in
theorem win_23 : ∀ w ∈ wsL_law0_r23, w ∈ lw_tbl := fun w h => (goodIn_r wsL_law0_r23 [1905, 79, 1906, 1908, 1910, 80, 1911, 1912, 1913, 1914, 1917, 1919, 81, 1920, 1921, 1923, 82, 1924, 1925, 1927, 83, 1928, 1650, 1193] (by decide +kernel) (by decide +kernel) w h).1
set_option maxRecDepth 20000 in
theorem win_24 : ∀ w ∈ wsL_law0_r24, w ∈ lw_tbl := fun w h => (goodIn_r wsL_law0_r24 [1194, 1195, 1196, 1197, 1198, 1199, 1200, 1201, 1202, 1203, 193, 202, 1204, 1205, 1206, 1207, 269, 272, 1208, 1209, 1210, 1212, 31, 1213] (by decide +kernel) (by decide +kernel) w h).1
