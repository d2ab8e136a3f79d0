/-! ===== the law's words stand in the tables (10) ===== -/
set_option maxRecDepth 20000 in
theorem win_73 : ∀ w ∈ wsL_law0_r73, w ∈ lw_tbl := fun w h => (goodIn_r wsL_law0_r73 [1621, 1622, 1623, 1624, 1625, 1626, 1627, 1831, 1832, 1833, 1834] (by decide +kernel) (by decide +kernel) w h).1
