theorem all_td {α : Type} {P : α → Prop} {l : List α} (n : Nat) (h1 : ∀ w ∈ l.take n, P w) (h2 : ∀ w ∈ l.drop n, P w) : ∀ w ∈ l, P w := fun w hw => by
  rw [← List.take_append_drop n l] at hw
  exact (List.mem_append.mp hw).elim (h1 w) (h2 w)
set_option maxRecDepth 20000 in
theorem in_r18a : ∀ w ∈ wsL_law0_r18.take 8, w ∈ lw_tbl := by decide +kernel
set_option maxRecDepth 20000 in
theorem in_r18b : ∀ w ∈ (wsL_law0_r18.drop 8).take 8, w ∈ lw_tbl := by decide +kernel
set_option maxRecDepth 20000 in
theorem in_r18c : ∀ w ∈ (wsL_law0_r18.drop 8).drop 8, w ∈ lw_tbl := by decide +kernel
theorem wsL_law_in_r18 : ∀ w ∈ wsL_law0_r18, w ∈ lw_tbl := all_td 8 in_r18a (all_td 8 in_r18b in_r18c)
