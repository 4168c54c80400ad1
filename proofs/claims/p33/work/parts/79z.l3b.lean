set_option maxRecDepth 20000 in
theorem in_r19a : ∀ w ∈ wsL_law0_r19.take 8, w ∈ lw_tbl := by decide +kernel
set_option maxRecDepth 20000 in
theorem in_r19b : ∀ w ∈ (wsL_law0_r19.drop 8).take 8, w ∈ lw_tbl := by decide +kernel
set_option maxRecDepth 20000 in
theorem in_r19c : ∀ w ∈ (wsL_law0_r19.drop 8).drop 8, w ∈ lw_tbl := by decide +kernel
theorem wsL_law_in_r19 : ∀ w ∈ wsL_law0_r19, w ∈ lw_tbl := all_td 8 in_r19a (all_td 8 in_r19b in_r19c)
