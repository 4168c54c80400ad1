set_option maxRecDepth 20000 in
theorem in_r25a : ∀ w ∈ wsL_law0_r25.take 8, w ∈ lw_tbl := by decide +kernel
set_option maxRecDepth 20000 in
theorem in_r25b : ∀ w ∈ (wsL_law0_r25.drop 8).take 8, w ∈ lw_tbl := by decide +kernel
set_option maxRecDepth 20000 in
theorem in_r25c : ∀ w ∈ (wsL_law0_r25.drop 8).drop 8, w ∈ lw_tbl := by decide +kernel
theorem wsL_law_in_r25 : ∀ w ∈ wsL_law0_r25, w ∈ lw_tbl := all_td 8 in_r25a (all_td 8 in_r25b in_r25c)
