set_option maxRecDepth 20000 in
theorem in_r27a : ∀ w ∈ wsL_law0_r27.take 8, w ∈ lw_tbl := by decide +kernel
set_option maxRecDepth 20000 in
theorem in_r27b : ∀ w ∈ (wsL_law0_r27.drop 8).take 8, w ∈ lw_tbl := by decide +kernel
set_option maxRecDepth 20000 in
theorem in_r27c : ∀ w ∈ (wsL_law0_r27.drop 8).drop 8, w ∈ lw_tbl := by decide +kernel
theorem wsL_law_in_r27 : ∀ w ∈ wsL_law0_r27, w ∈ lw_tbl := all_td 8 in_r27a (all_td 8 in_r27b in_r27c)
