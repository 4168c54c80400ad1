set_option maxRecDepth 20000 in
theorem in_r23a : ∀ w ∈ wsL_law0_r23.take 8, w ∈ lw_tbl := by decide +kernel
set_option maxRecDepth 20000 in
theorem in_r23b : ∀ w ∈ (wsL_law0_r23.drop 8).take 8, w ∈ lw_tbl := by decide +kernel
set_option maxRecDepth 20000 in
theorem in_r23c : ∀ w ∈ (wsL_law0_r23.drop 8).drop 8, w ∈ lw_tbl := by decide +kernel
theorem wsL_law_in_r23 : ∀ w ∈ wsL_law0_r23, w ∈ lw_tbl := all_td 8 in_r23a (all_td 8 in_r23b in_r23c)
