set_option maxRecDepth 20000 in
theorem in_r20a : ∀ w ∈ wsL_law0_r20.take 8, w ∈ lw_tbl := by decide +kernel
set_option maxRecDepth 20000 in
theorem in_r20b : ∀ w ∈ (wsL_law0_r20.drop 8).take 8, w ∈ lw_tbl := by decide +kernel
set_option maxRecDepth 20000 in
theorem in_r20c : ∀ w ∈ (wsL_law0_r20.drop 8).drop 8, w ∈ lw_tbl := by decide +kernel
theorem wsL_law_in_r20 : ∀ w ∈ wsL_law0_r20, w ∈ lw_tbl := all_td 8 in_r20a (all_td 8 in_r20b in_r20c)
