set_option maxRecDepth 20000 in
theorem in_r24a : ∀ w ∈ wsL_law0_r24.take 8, w ∈ lw_tbl := by decide +kernel
set_option maxRecDepth 20000 in
theorem in_r24b : ∀ w ∈ (wsL_law0_r24.drop 8).take 8, w ∈ lw_tbl := by decide +kernel
set_option maxRecDepth 20000 in
theorem in_r24c : ∀ w ∈ (wsL_law0_r24.drop 8).drop 8, w ∈ lw_tbl := by decide +kernel
theorem wsL_law_in_r24 : ∀ w ∈ wsL_law0_r24, w ∈ lw_tbl := all_td 8 in_r24a (all_td 8 in_r24b in_r24c)
