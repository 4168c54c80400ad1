set_option maxRecDepth 20000 in
theorem in_r21a : ∀ w ∈ wsL_law0_r21.take 8, w ∈ lw_tbl := by decide +kernel
set_option maxRecDepth 20000 in
theorem in_r21b : ∀ w ∈ (wsL_law0_r21.drop 8).take 8, w ∈ lw_tbl := by decide +kernel
set_option maxRecDepth 20000 in
theorem in_r21c : ∀ w ∈ (wsL_law0_r21.drop 8).drop 8, w ∈ lw_tbl := by decide +kernel
theorem wsL_law_in_r21 : ∀ w ∈ wsL_law0_r21, w ∈ lw_tbl := all_td 8 in_r21a (all_td 8 in_r21b in_r21c)
