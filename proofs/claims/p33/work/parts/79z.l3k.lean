set_option maxRecDepth 20000 in
theorem in_r28a : ∀ w ∈ wsL_law0_r28.take 8, w ∈ lw_tbl := by decide +kernel
set_option maxRecDepth 20000 in
theorem in_r28b : ∀ w ∈ (wsL_law0_r28.drop 8).take 8, w ∈ lw_tbl := by decide +kernel
set_option maxRecDepth 20000 in
theorem in_r28c : ∀ w ∈ (wsL_law0_r28.drop 8).drop 8, w ∈ lw_tbl := by decide +kernel
theorem wsL_law_in_r28 : ∀ w ∈ wsL_law0_r28, w ∈ lw_tbl := all_td 8 in_r28a (all_td 8 in_r28b in_r28c)
