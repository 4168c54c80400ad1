set_option maxRecDepth 20000 in
theorem wsL_law_in_r28 : ∀ w ∈ wsL_law0_r28, w ∈ lw_tbl := List.forall_mem_cons.mpr ⟨tb_in 813 rfl, List.forall_mem_cons.mpr ⟨tb_in 814 (by decide +kernel), List.forall_mem_cons.mpr ⟨tb_in 815 (by decide +kernel), List.forall_mem_cons.mpr ⟨tb_in 828 (by decide +kernel), (fun _ h => nomatch h)⟩⟩⟩⟩
