/-! ===== the law's words stand in the tables (10) ===== -/
set_option maxRecDepth 20000 in
theorem win_73 : ∀ w ∈ wsL_law0_r73, w ∈ lw_tbl := fun w h => (goodIn_s wsL_law0_r73 [(1621, 7), (1831, 4)] rfl (by decide +kernel) w h).1
