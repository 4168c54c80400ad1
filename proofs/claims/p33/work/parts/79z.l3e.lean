set_option maxRecDepth 20000 in
theorem in_r22a : ∀ w ∈ wsL_law0_r22.take 8, w ∈ lw_tbl := by decide +kernel
set_option maxRecDepth 20000 in
theorem in_r22b : ∀ w ∈ (wsL_law0_r22.drop 8).take 8, w ∈ lw_tbl := by decide +kernel
set_option maxRecDepth 20000 in
theorem in_r22c : ∀ w ∈ (wsL_law0_r22.drop 8).drop 8, w ∈ lw_tbl := by decide +kernel
theorem wsL_law_in_r22 : ∀ w ∈ wsL_law0_r22, w ∈ lw_tbl := all_td 8 in_r22a (all_td 8 in_r22b in_r22c)
