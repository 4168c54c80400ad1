set_option maxRecDepth 20000 in
theorem in_r26a : ∀ w ∈ wsL_law0_r26.take 8, w ∈ lw_tbl := by decide +kernel
set_option maxRecDepth 20000 in
theorem in_r26b : ∀ w ∈ (wsL_law0_r26.drop 8).take 8, w ∈ lw_tbl := by decide +kernel
set_option maxRecDepth 20000 in
theorem in_r26c : ∀ w ∈ (wsL_law0_r26.drop 8).drop 8, w ∈ lw_tbl := by decide +kernel
theorem wsL_law_in_r26 : ∀ w ∈ wsL_law0_r26, w ∈ lw_tbl := all_td 8 in_r26a (all_td 8 in_r26b in_r26c)
