/-! one list of words for all of the law: each of its methods asks for its own code word and for the law's list -/
theorem wsB_good : wsL_law.all goodWord = true := by decide +kernel
theorem gB_w {w : Cond} (h : w ∈ wsL_law) {cw : Cond} : w ∈ cw :: wsL_law ∧ ((w.onTables && w.keeps) = true ∨ ∃ ty, w = .arrayClass ty) := ⟨List.mem_cons_of_mem _ h, good_of_word (List.all_eq_true.mp wsB_good w h)⟩
theorem gB_S {cw cw' : Cond} {idx : Nat} {y : MethodName} (h1 : Cond.methodLink RL idx y ∈ wsL_law) (h2 : Cond.static y ∈ wsL_law) (h3 : Cond.initialized y.cls ∈ wsL_law) (h4 : cw' ∈ wsL_law) : GoodIn (cw :: wsL_law) (va_wsS RL idx y (cw' :: wsL_law)) := fun w h => by
  unfold va_wsS at h
  rcases List.mem_append.mp h with h | h
  · simp only [List.mem_cons, List.not_mem_nil, or_false] at h
    rcases h with rfl | rfl | rfl
    · exact gB_w h1
    · exact gB_w h2
    · exact gB_w h3
  · rcases List.mem_cons.mp h with rfl | h
    · exact gB_w h4
    · exact gB_w h
theorem gB_V {cw : Cond} {idx : Nat} {y : MethodName} {ws : List Cond} (h1 : Cond.methodLink RL idx y ∈ wsL_law) (h2 : Cond.instanceMethod y ∈ wsL_law) (h3 : Cond.selects RX4 y y ∈ wsL_law) (h4 : Cond.initialized RX4 ∈ wsL_law) (hg : GoodIn wsL_law ws) : GoodIn (cw :: wsL_law) (wsV RL idx RX4 y ws) := fun w h => by
  unfold wsV at h
  rcases List.mem_append.mp h with h | h
  · simp only [List.mem_cons, List.not_mem_nil, or_false] at h
    rcases h with rfl | rfl | rfl | rfl
    · exact gB_w h1
    · exact gB_w h2
    · exact gB_w h3
    · exact gB_w h4
  · exact gB_w (hg w h).1
def wsB_draw : List Cond := .code yL_draw cL_draw 2 (some .int) :: wsL_law
def wsB_in : List Cond := .code yL_in cL_in 6 (some .boolean) :: wsL_law
def wsB_append : List Cond := .codeWith yL_append cL_append 3 (some .long) [(0, 6, 7, 15), (0, 6, 12, 19)] :: wsL_law
def wsB_load : List Cond := .codeWith yL_load cL_load 2 (some .long) [(0, 5, 6, 19)] :: wsL_law
def wsB_about : List Cond := .codeWith yL_about cL_about 3 (some .long) [(0, 6, 7, 15)] :: wsL_law
def wsB_siteOf : List Cond := .codeWith yL_siteOf cL_siteOf 4 (some .long) [(0, 7, 8, 34), (0, 7, 13, 15)] :: wsL_law
def wsB_since : List Cond := .codeWith yL_since cL_since 4 (some .long) [(0, 7, 8, 34)] :: wsL_law
def wsB_layerOf : List Cond := .codeWith yL_layerOf cL_layerOf 5 (some .long) [(0, 8, 9, 34), (0, 8, 15, 15)] :: wsL_law
def wsB_tubeOf : List Cond := .codeWith yL_tubeOf cL_tubeOf 4 (some .long) [(0, 7, 8, 34), (0, 7, 13, 15)] :: wsL_law
def wsB_pipeOf : List Cond := .codeWith yL_pipeOf cL_pipeOf 4 (some .long) [(0, 7, 8, 34), (0, 7, 13, 15)] :: wsL_law
def wsB_layers : List Cond := .codeWith yL_layers cL_layers 4 (some .long) [(0, 7, 8, 34), (0, 7, 13, 15)] :: wsL_law
def wsB_oldest : List Cond := .codeWith yL_oldest cL_oldest 3 (some .long) [(0, 6, 7, 34)] :: wsL_law
def wsB_site : List Cond := .codeWith yL_site cL_site 2 (some .long) [(0, 5, 6, 19)] :: wsL_law
def wsB_tube : List Cond := .codeWith yL_tube cL_tube 4 (some .long) [(0, 7, 8, 34), (0, 7, 13, 15), (0, 7, 18, 19)] :: wsL_law
def wsB_pipe : List Cond := .codeWith yL_pipe cL_pipe 4 (some .long) [(0, 7, 8, 34), (0, 7, 13, 19)] :: wsL_law
def wsB_fence : List Cond := .codeWith yL_fence cL_fence 4 (some .long) [(0, 7, 8, 34), (0, 7, 13, 15)] :: wsL_law
def wsB_shovel : List Cond := .codeWith yL_shovel cL_shovel 3 (some .long) [(0, 6, 7, 34)] :: wsL_law
def wsB_days : List Cond := .codeWith yL_days cL_days 5 (some .long) [(0, 8, 9, 15), (0, 8, 15, 19)] :: wsL_law
def wsB_set : List Cond := .codeWith yL_set cL_set 4 (some .long) [(0, 7, 8, 15)] :: wsL_law
def wsB_undo : List Cond := .codeWith yL_undo cL_undo 2 (some .long) [(0, 5, 6, 19)] :: wsL_law
def wsB_goneIn : List Cond := .codeWith yL_goneIn cL_goneIn 4 (some .long) [(0, 7, 8, 34), (0, 7, 13, 15)] :: wsL_law
def wsB_reachedIn : List Cond := .codeWith yL_reachedIn cL_reachedIn 5 (some .long) [(0, 8, 9, 34), (0, 8, 15, 15)] :: wsL_law
def wsB_bestFence : List Cond := .codeWith yL_bestFence cL_bestFence 6 (some .long) [(0, 10, 11, 34), (0, 10, 17, 15)] :: wsL_law
def wsB_heaveIn : List Cond := .codeWith yL_heaveIn cL_heaveIn 5 (some .long) [(0, 8, 9, 34), (0, 8, 15, 15)] :: wsL_law
def wsB_script : List Cond := .codeWith yL_script cL_script 5 (some .long) [(0, 7, 8, 15)] :: wsL_law
def wsB_simulate : List Cond := .codeWith yL_simulate cL_simulate 5 (some .long) [(0, 7, 8, 15)] :: wsL_law
def wsB_save : List Cond := .codeWith yL_save cL_save 3 (some .long) [(0, 6, 7, 34)] :: wsL_law
def wsB_restore : List Cond := .codeWith yL_restore cL_restore 3 (some .long) [(0, 6, 7, 34), (0, 6, 12, 19)] :: wsL_law
def wsB_now : List Cond := .code yL_now cL_now 5 (some .long) :: wsL_law
def wsB_errors : List Cond := .code yL_errors cL_errors 5 (some .boolean) :: wsL_law
def wsB_kept : List Cond := .code yL_kept cL_kept 19 (some .boolean) :: wsL_law
def wsB_follows : List Cond := .code yL_follows cL_follows 21 (some .boolean) :: wsL_law
def wsB_alike : List Cond := .code yL_alike cL_alike 3 (some .boolean) :: wsL_law
def wsB_says : List Cond := .code yL_says cL_says 5 (some .boolean) :: wsL_law
def wsB_told : List Cond := .code yL_told cL_told 5 (some .boolean) :: wsL_law
def wsB_act : List Cond := .code yL_act cL_act 5 (some .long) :: wsL_law
