/-! errors: what must be refused is refused, and changes nothing -/
def EX : Int64 := -9000000000000000001
def EA : Int64 := -9000000000000000002
def ES : Int64 := -9000000000000000003
section ER
variable {μ ν : Mem} {m d : Nat}
theorem R_act {code a b c : Int32} {F k : Nat} (h : Rel μ ν) (hl : left (ν 1) code a b c F) (hk : (F = 1 ∧ k = 3) ∨ (F = 2 ∧ k = 1) ∨ (F = 3 ∧ k = 2)) : ((f_X4_act μ code a b c).bind fun r1 => if r1.1 = 0 then some (0, r1.2.1, r1.2.2) else some (r1.1, 0, r1.2.2)) = some (k, 0, μ) :=
  wrapk (by omega) (act_left h hl hk)
theorem R_tube {a b : Int32} (h : Rel μ ν) (hg : gd 9999 d (ν 1)) (hm : ν 1 196 = nI m) (hm4 : m ≤ 4) (ha : a < 0 ∨ nI m ≤ a) : f_L_tube μ a b = some (EX, μ) := by
  have hs := X5_isSite_n hm hm4 ha
  rcases tube_cases a b hg with ⟨hl, _⟩ | ⟨_, h2, _⟩ | ⟨_, h2, _⟩ | ⟨_, h2, _⟩
  · unfold f_L_tube
    rw [show f_X4_tube μ a b = some (3, 0, μ) from R_act h hl (Or.inl ⟨rfl, rfl⟩)]
    rfl
  all_goals (rw [hs] at h2; exact absurd (Option.some.inj h2) (by decide))
theorem R_tube0 {z : Nat} (h : Rel μ ν) (hg : gd 9999 d (ν 1)) (hm : ν 1 196 = nI m) (hm4 : m ≤ 4) (hz : z < m) : f_L_tube μ (nI z) 0 = some (EA, μ) := by
  have hs := X5_isSite_y hm hm4 hz
  rcases tube_cases (nI z) 0 hg with ⟨_, h2⟩ | ⟨hl, _⟩ | ⟨_, _, h2, _⟩ | ⟨_, _, h2, _⟩
  · rw [hs] at h2
    exact absurd (Option.some.inj h2) (by decide)
  · unfold f_L_tube
    rw [show f_X4_tube μ (nI z) 0 = some (1, 0, μ) from R_act h hl (Or.inr (Or.inl ⟨rfl, rfl⟩))]
    rfl
  · exact absurd h2.1 (by decide)
  · exact absurd h2.1 (by decide)
theorem R_pipe {a b : Int32} (h : Rel μ ν) (hg : gd 9999 d (ν 1)) (hm : ν 1 196 = nI m) (hm4 : m ≤ 4) (ha : a < 0 ∨ nI m ≤ a) : f_L_pipe μ a b = some (EX, μ) := by
  have hs := X5_isSite_n hm hm4 ha
  rcases pipe_cases a b hg with ⟨hl, _⟩ | ⟨_, h2, _⟩ | ⟨_, h2, _⟩ | ⟨_, h2, _⟩
  · unfold f_L_pipe
    rw [show f_X4_pipe μ a b = some (3, 0, μ) from R_act h hl (Or.inl ⟨rfl, rfl⟩)]
    rfl
  all_goals (rw [hs] at h2; exact absurd (Option.some.inj h2) (by decide))
theorem R_pipe0 {a : Int32} (h : Rel μ ν) (hg : gd 9999 d (ν 1)) : f_L_pipe μ a (-1) = some (EX, μ) := by
  have hc : f_X5_isCell (-1) = some 0 := X5_isCell_n (Or.inl (by decide))
  rcases pipe_cases a (-1) hg with ⟨hl, _⟩ | ⟨hl, _⟩ | ⟨_, _, h2, _⟩ | ⟨_, _, h2, _⟩
  · unfold f_L_pipe
    rw [show f_X4_pipe μ a (-1) = some (3, 0, μ) from R_act h hl (Or.inl ⟨rfl, rfl⟩)]
    rfl
  · unfold f_L_pipe
    rw [show f_X4_pipe μ a (-1) = some (3, 0, μ) from R_act h hl (Or.inl ⟨rfl, rfl⟩)]
    rfl
  · rw [hc] at h2
    exact absurd (Option.some.inj h2) (by decide)
  · rw [hc] at h2
    exact absurd (Option.some.inj h2) (by decide)
theorem R_fence {a b : Int32} (h : Rel μ ν) (hg : gd 9999 d (ν 1)) (hm : ν 1 196 = nI m) (hm4 : m ≤ 4) (ha : a < 0 ∨ nI m ≤ a) : f_L_fence μ a b = some (EX, μ) := by
  have hs := X5_isSite_n hm hm4 ha
  rcases fence_cases a b hg with ⟨hl, _⟩ | ⟨_, h2, _⟩ | ⟨_, h2, _⟩
  · unfold f_L_fence
    rw [show f_X4_fence μ a b = some (3, 0, μ) from R_act h hl (Or.inl ⟨rfl, rfl⟩)]
    rfl
  all_goals (rw [hs] at h2; exact absurd (Option.some.inj h2) (by decide))
theorem R_fence21 {z : Nat} (h : Rel μ ν) (hg : gd 9999 d (ν 1)) (hm : ν 1 196 = nI m) (hm4 : m ≤ 4) (hz : z < m) : f_L_fence μ (nI z) 21 = some (EA, μ) := by
  have hs := X5_isSite_y hm hm4 hz
  rcases fence_cases (nI z) 21 hg with ⟨_, h2⟩ | ⟨hl, _⟩ | ⟨_, _, h2⟩
  · rw [hs] at h2
    exact absurd (Option.some.inj h2) (by decide)
  · unfold f_L_fence
    rw [show f_X4_fence μ (nI z) 21 = some (1, 0, μ) from R_act h hl (Or.inr (Or.inl ⟨rfl, rfl⟩))]
    rfl
  · exact absurd h2.2 (by decide)
theorem R_shovel {a : Int32} (h : Rel μ ν) (hg : gd 9999 d (ν 1)) (hm : ν 1 196 = nI m) (hm4 : m ≤ 4) (ha : a < 0 ∨ nI m ≤ a) : f_L_shovel μ a = some (EX, μ) := by
  have hs := X5_isSite_n hm hm4 ha
  rcases shovel_cases a hg with ⟨hl, _⟩ | ⟨_, h2⟩
  · unfold f_L_shovel
    rw [show f_X4_shovel μ a = some (3, 0, μ) from R_act h hl (Or.inl ⟨rfl, rfl⟩)]
    rfl
  · rw [hs] at h2
    exact absurd (Option.some.inj h2) (by decide)
theorem R_days {t w n : Int32} (h : Rel μ ν) (hg : gd 9999 d (ν 1)) (hw : ¬ wea t w n) : f_L_days μ t w n = some (EA, μ) := by
  rcases days_cases t w n hg with ⟨hl, _⟩ | ⟨_, h2, _⟩ | ⟨_, h2, _⟩
  · unfold f_L_days
    rw [show f_X4_days μ t w n = some (1, 0, μ) from R_act h hl (Or.inr (Or.inl ⟨rfl, rfl⟩))]
    rfl
  · exact absurd h2 hw
  · exact absurd h2 hw
theorem R_set {a v : Int32} (h : Rel μ ν) (hg : gd 9999 d (ν 1)) (hw : ¬ setok a v) : f_L_set μ a v = some (EA, μ) := by
  rcases set_cases a v hg with ⟨hl, _⟩ | ⟨_, h2⟩
  · unfold f_L_set
    rw [show f_X4_set μ a v = some (1, 0, μ) from R_act h hl (Or.inr (Or.inl ⟨rfl, rfl⟩))]
    rfl
  · exact absurd h2 hw
theorem R_site (h : Rel μ ν) (hg : gd 9999 d (ν 1)) (hm : ν 1 196 = nI 4) : f_L_site μ = some (ES, μ) := by
  rcases site_cases hg with ⟨hl, _⟩ | ⟨_, m', h2, h3⟩
  · unfold f_L_site
    rw [show f_X4_site μ = some (2, 0, μ) from R_act h hl (Or.inr (Or.inr ⟨rfl, rfl⟩))]
    rfl
  · rw [hm, eq_nI (by omega) (by omega)] at h3
    omega
theorem R_goneIn {a b : Int32} (h : Rel μ ν) (hm : ν 1 196 = nI m) (ha : a < 0 ∨ nI m ≤ a) : f_L_goneIn μ a b = some (EX, μ) := by
  unfold f_L_goneIn f_X4_goneIn
  rw [X4_needSite_n h.1.1 hm ha]
  rfl
theorem R_goneIn0 {z : Nat} (h : Rel μ ν) (hm : ν 1 196 = nI m) (hm4 : m ≤ 4) (hz : z < m) : f_L_goneIn μ (nI z) 0 = some (EA, μ) := by
  unfold f_L_goneIn f_X4_goneIn
  rw [X4_needSite_y h.1.1 hm hm4 hz, Option.bind_some, if_pos rfl, X4_needRange_n (by decide)]
  rfl
theorem R_reach30 {z : Nat} {b : Int32} (h : Rel μ ν) (hm : ν 1 196 = nI m) (hm4 : m ≤ 4) (hz : z < m) : f_L_reachedIn μ (nI z) 30 b = some (EX, μ) := by
  unfold f_L_reachedIn f_X4_reachedIn
  rw [X4_needSite_y h.1.1 hm hm4 hz, Option.bind_some, if_pos rfl, X4_needCell_n (Or.inr (by decide))]
  rfl
theorem R_reach0 {z : Nat} (h : Rel μ ν) (hm : ν 1 196 = nI m) (hm4 : m ≤ 4) (hz : z < m) : f_L_reachedIn μ (nI z) 0 0 = some (EA, μ) := by
  unfold f_L_reachedIn f_X4_reachedIn
  rw [X4_needSite_y h.1.1 hm hm4 hz, Option.bind_some, if_pos rfl, show f_X4_needCell 0 = some 0 from X4_needCell_y (j := 0) (by omega), Option.bind_some, if_pos rfl, X4_needRange_n (by decide)]
  rfl
theorem R_best {z : Nat} (h : Rel μ ν) (hm : ν 1 196 = nI m) (hm4 : m ≤ 4) (hz : z < m) : f_L_bestFence μ (nI z) 0 31 1 = some (EA, μ) := by
  unfold f_L_bestFence f_X4_bestFence
  rw [X4_needSite_y h.1.1 hm hm4 hz, Option.bind_some, if_pos rfl, X4_needRange_y (by decide), Option.bind_some, if_pos rfl, X4_needRange_n (by decide)]
  rfl
theorem R_heave {a b c : Int32} {q : Nat} (h : Rel μ ν) (hq : ν 1 198 = nI q) (ha : a < 0 ∨ nI q ≤ a) : f_L_heaveIn μ a b c = some (EX, μ) := by
  unfold f_L_heaveIn f_X4_heaveIn
  rw [X4_needPipe_n h.1.1 hq ha]
  rfl
theorem R_script0 {b : Int64} : f_L_script μ 0 b = some (EA, μ) := by
  unfold f_L_script f_X4_runScript
  rw [X4_needRange_n (by decide)]
  rfl
theorem R_script3 : f_L_script μ 3 1000000000000000000 = some (EA, μ) := by
  have e1 : fl_X4_runScript 3 1000000000000000000 FU 1 μ 1 0 = some (1, 0, μ) := by
    show fb_X4_runScript_1 3 1000000000000000000 (fl_X4_runScript 3 1000000000000000000 999999999) μ 1 0 = _
    unfold fb_X4_runScript_1
    rw [if_neg (by decide)]
    show fb_X4_runScript_1 3 1000000000000000000 (fl_X4_runScript 3 1000000000000000000 999999998) μ (1 * 1000000) (0 + 1) = _
    unfold fb_X4_runScript_1
    rw [if_neg (by decide)]
    show fb_X4_runScript_1 3 1000000000000000000 (fl_X4_runScript 3 1000000000000000000 999999997) μ (1 * 1000000 * 1000000) (0 + 1 + 1) = _
    unfold fb_X4_runScript_1
    rw [if_neg (by decide)]
    show fb_X4_runScript_1 3 1000000000000000000 (fl_X4_runScript 3 1000000000000000000 999999996) μ (1 * 1000000 * 1000000 * 1000000) (0 + 1 + 1 + 1) = _
    unfold fb_X4_runScript_1
    rw [if_pos (by decide), if_neg (by decide), if_neg (by decide)]
  unfold f_L_script f_X4_runScript
  rw [X4_needRange_y (by decide), Option.bind_some, if_pos rfl, e1]
  rfl
theorem R_sim {a : Int64} : f_L_simulate μ a 0 = some (EA, μ) := by
  unfold f_L_simulate f_X4_simulate
  rw [X4_needRange_n (by decide)]
  rfl
theorem R_save : f_L_save μ 2 = some (EX, μ) := by
  unfold f_L_save f_X4_save
  rw [X4_needSlot_n (Or.inr (by decide))]
  rfl
theorem R_restore : f_L_restore μ 2 = some (EX, μ) := by
  unfold f_L_restore f_X4_restore
  rw [X4_needSlot_n (Or.inr (by decide))]
  rfl
theorem R_append : f_L_append μ 256 = some (EA, μ) := by
  unfold f_L_append f_X4_append
  rw [X4_needRange_n (by decide)]
  rfl
theorem R_about {a : Int32} (ha : ¬ ((0 : Int32) ≤ a ∧ a ≤ 11)) : f_L_about μ a = some EA := by
  unfold f_L_about f_X4_about
  rw [X4_needRange_n ha]
  rfl
theorem R_siteOf {a b : Int32} (h : Rel μ ν) (hm : ν 1 196 = nI m) (ha : a < 0 ∨ nI m ≤ a) : f_L_siteOf μ a b = some EX := by
  unfold f_L_siteOf f_X4_siteOf
  rw [X4_needSite_n h.1.1 hm ha]
  rfl
theorem R_siteOf9 {z : Nat} (h : Rel μ ν) (hm : ν 1 196 = nI m) (hm4 : m ≤ 4) (hz : z < m) : f_L_siteOf μ (nI z) 9 = some EA := by
  unfold f_L_siteOf f_X4_siteOf
  rw [X4_needSite_y h.1.1 hm hm4 hz, Option.bind_some, if_pos rfl, X4_needRange_n (by decide)]
  rfl
theorem R_since30 {z : Nat} (h : Rel μ ν) (hm : ν 1 196 = nI m) (hm4 : m ≤ 4) (hz : z < m) : f_L_since μ (nI z) 30 = some EX := by
  unfold f_L_since f_X4_since
  rw [X4_needSite_y h.1.1 hm hm4 hz, Option.bind_some, if_pos rfl, X4_needCell_n (Or.inr (by decide))]
  rfl
theorem R_layers {z : Nat} (h : Rel μ ν) (hm : ν 1 196 = nI m) (hm4 : m ≤ 4) (hz : z < m) : f_L_layers μ (nI z) 2 = some EA := by
  unfold f_L_layers f_X4_layers
  rw [X4_needSite_y h.1.1 hm hm4 hz, Option.bind_some, if_pos rfl, X4_needRange_n (by decide)]
  rfl
theorem R_layerOf {z : Nat} {b : Int32} (h : Rel μ ν) (hm : ν 1 196 = nI m) (hm4 : m ≤ 4) (hz : z < m) : f_L_layerOf μ (nI z) (nI (cf (bgn (fR (ν 1) z)) 0 30)) b = some EX := by
  have oj : ¬ oob (nI z) 4 := by rw [oob_nI (by omega)]; omega
  have cj : (nI z).toNatClampNeg = z := cl_nI (by omega)
  have hf := X2_first_n (r := ν 1) (z := z) (a := nI (cf (bgn (fR (ν 1) z)) 0 30)) (by omega) (Or.inr (Int32.le_refl _)) 30 FU 0 (by omega) (fu_lt (by omega))
  have hf' : f_X2_firstOfLayer (enc (ν 1)) z (nI (cf (bgn (fR (ν 1) z)) 0 30)) = some (-1) := hf
  unfold f_L_layerOf f_X4_layerOf
  rw [X4_needSite_y h.1.1 hm hm4 hz, Option.bind_some, if_pos rfl, if_neg oj]
  simp only [cj, h.1.1, oj, if_false]
  rw [hf', Option.bind_some, if_pos rfl]
  rfl
theorem R_tubeOf {b : Int32} {q : Nat} (h : Rel μ ν) (hq : ν 1 197 = nI q) (hq8 : q ≤ 8) : f_L_tubeOf μ (nI q) b = some EX := by
  have hm' : μ 0 197 = nI q := by rw [h.1.1, enc_hi (by omega), hq]
  unfold f_L_tubeOf f_X4_tubeOf
  rw [if_neg (nI_pos (by omega)), hm', if_neg Int32.lt_irrefl]
  rfl
theorem R_pipeOf {b : Int32} {q : Nat} (h : Rel μ ν) (hq : ν 1 198 = nI q) : f_L_pipeOf μ (nI q) b = some EX := by
  unfold f_L_pipeOf f_X4_pipeOf
  rw [X4_needPipe_n h.1.1 hq (Or.inr (Int32.le_refl _))]
  rfl
theorem R_oldest (h : Rel μ ν) (hg : gd 9999 d (ν 1)) : f_L_oldest μ (nI (ac (ν 1))) = some EX := by
  have := ac_le (ν 1)
  unfold f_L_oldest f_X4_oldest
  rw [if_neg (nI_pos (by omega)), h.1.1, X0_frozenCells hg.1, Option.bind_some, if_neg Int32.lt_irrefl]
  rfl
theorem R_oldestm : f_L_oldest μ (-1) = some EX := by
  unfold f_L_oldest f_X4_oldest
  rw [if_pos (by decide)]
  rfl
end ER
theorem er3 {μ : Mem} {n : Nat} {w : Int64} (hn : f_L_now μ = some w) : fl_L_errors (n + 1) 3 μ 1 0 w = some (1, μ) := by
  show fb_L_errors_3 (fl_L_errors n) μ 1 0 w = _
  unfold fb_L_errors_3
  rw [if_neg i10, hn, Option.bind_some, if_pos (ceq_s _)]
theorem er4 {μ : Mem} {n : Nat} {w : Int64} (hn : f_L_now μ = some w) : fl_L_errors (n + 2) 4 μ 0 0 w = some (1, μ) := by
  show fb_L_errors_4 (fl_L_errors (n + 1)) μ 0 0 w = _
  unfold fb_L_errors_4
  have c1 : ∀ x : Int64, lg_cmp x x = 0 := ceq_s
  rw [show f_L_script μ 0 0 = some (EA, μ) from R_script0, Option.bind_some, if_pos (show lg_cmp (EA, μ).1 (-9000000000000000002) = 0 from ceq_s EA), show f_L_script (EA, μ).2 3 1000000000000000000 = some (EA, μ) from R_script3, Option.bind_some, if_pos (show lg_cmp (EA, μ).1 (-9000000000000000002) = 0 from ceq_s EA), show f_L_simulate (EA, μ).2 1 0 = some (EA, μ) from R_sim, Option.bind_some, if_pos (show lg_cmp (EA, μ).1 (-9000000000000000002) = 0 from ceq_s EA), show f_L_save (EA, μ).2 2 = some (EX, μ) from R_save, Option.bind_some, if_pos (show lg_cmp (EX, μ).1 (-9000000000000000001) = 0 from ceq_s EX), show f_L_restore (EX, μ).2 2 = some (EX, μ) from R_restore, Option.bind_some, if_pos (show lg_cmp (EX, μ).1 (-9000000000000000001) = 0 from ceq_s EX), show f_L_append (EX, μ).2 256 = some (EA, μ) from R_append, Option.bind_some, if_pos (show lg_cmp (EA, μ).1 (-9000000000000000002) = 0 from ceq_s EA)]
  exact er3 hn
theorem er1 {μ ν : Mem} {m d n : Nat} {w : Int64} (h : Rel μ ν) (hg : gd 9999 d (ν 1)) (hm : ν 1 196 = nI m) (hm4 : m ≤ 4) (hn : f_L_now μ = some w) : fl_L_errors (n + 3) 1 μ 1 (nI m) w = some (1, μ) := by
  obtain ⟨q, hq, hq8⟩ := inv_198 hg.1
  have ha : nI m < 0 ∨ nI m ≤ nI m := Or.inr (Int32.le_refl _)
  have c1 : ∀ x : Int64, lg_cmp x x = 0 := ceq_s
  show fb_L_errors_1 (fl_L_errors (n + 2)) μ 1 (nI m) w = _
  unfold fb_L_errors_1
  rw [if_neg i10, show f_L_tube μ (nI m) 0 = some (EX, μ) from R_tube h hg hm hm4 ha, Option.bind_some, if_pos (show lg_cmp (EX, μ).1 (-9000000000000000001) = 0 from ceq_s EX), show f_L_pipe (EX, μ).2 (nI m) 0 = some (EX, μ) from R_pipe h hg hm hm4 ha, Option.bind_some, if_pos (show lg_cmp (EX, μ).1 (-9000000000000000001) = 0 from ceq_s EX), show f_L_fence (EX, μ).2 (nI m) 21 = some (EX, μ) from R_fence h hg hm hm4 ha, Option.bind_some, if_pos (show lg_cmp (EX, μ).1 (-9000000000000000001) = 0 from ceq_s EX), show f_L_shovel (EX, μ).2 (nI m) = some (EX, μ) from R_shovel h hg hm hm4 ha, Option.bind_some, if_pos (show lg_cmp (EX, μ).1 (-9000000000000000001) = 0 from ceq_s EX),
    show f_L_days (EX, μ).2 (-31) 0 1 = some (EA, μ) from R_days h hg (fun x => absurd x.1.1 (by decide)), Option.bind_some, if_pos (show lg_cmp (EA, μ).1 (-9000000000000000002) = 0 from ceq_s EA), show f_L_days (EA, μ).2 0 (-1) 1 = some (EA, μ) from R_days h hg (fun x => absurd x.2.1.1 (by decide)), Option.bind_some, if_pos (show lg_cmp (EA, μ).1 (-9000000000000000002) = 0 from ceq_s EA), show f_L_days (EA, μ).2 0 0 0 = some (EA, μ) from R_days h hg (fun x => absurd x.2.2.1 (by decide)), Option.bind_some, if_pos (show lg_cmp (EA, μ).1 (-9000000000000000002) = 0 from ceq_s EA),
    show f_L_set (EA, μ).2 0 31 = some (EA, μ) from R_set h hg (by unfold setok; decide), Option.bind_some, if_pos (show lg_cmp (EA, μ).1 (-9000000000000000002) = 0 from ceq_s EA), show f_L_set (EA, μ).2 1 10 = some (EA, μ) from R_set h hg (by unfold setok; decide), Option.bind_some, if_pos (show lg_cmp (EA, μ).1 (-9000000000000000002) = 0 from ceq_s EA), show f_L_set (EA, μ).2 2 51 = some (EA, μ) from R_set h hg (by unfold setok; decide), Option.bind_some, if_pos (show lg_cmp (EA, μ).1 (-9000000000000000002) = 0 from ceq_s EA), show f_L_set (EA, μ).2 (-1) 5 = some (EA, μ) from R_set h hg (by unfold setok; decide), Option.bind_some, if_pos (show lg_cmp (EA, μ).1 (-9000000000000000002) = 0 from ceq_s EA),
    show f_L_goneIn (EA, μ).2 (nI m) 1 = some (EX, μ) from R_goneIn h hm ha, Option.bind_some, if_pos (show lg_cmp (EX, μ).1 (-9000000000000000001) = 0 from ceq_s EX), show f_L_about (EX, μ).2 2 = some (nL q) from V_ab2 h.1.1 hq hq8, Option.bind_some, nL_32 (by omega), show f_L_heaveIn (EX, μ).2 (nI q) 0 1 = some (EX, μ) from R_heave h hq (Or.inr (Int32.le_refl _)), Option.bind_some, if_pos (show lg_cmp (EX, μ).1 (-9000000000000000001) = 0 from ceq_s EX)]
  by_cases e : m = 4
  · subst e
    rw [if_neg (by decide), show f_L_site (EX, μ).2 = some (ES, μ) from R_site h hg hm, Option.bind_some, if_pos (show lg_cmp (ES, μ).1 (-9000000000000000003) = 0 from ceq_s ES)]
    exact er4 hn
  · rw [if_pos (by rw [show (4 : Int32) = nI 4 from rfl, lt_nI (by omega) (by omega)]; omega)]
    exact er4 hn
theorem er2 {μ ν : Mem} {m d n : Nat} {w : Int64} (h : Rel μ ν) (hg : gd 9999 d (ν 1)) (hm : ν 1 196 = nI m) (hm4 : m ≤ 4) (hn : f_L_now μ = some w) : fl_L_errors (n + 4) 2 μ 0 (nI m) w = some (1, μ) := by
  obtain ⟨q, hq, hq8⟩ := inv_198 hg.1
  obtain ⟨q7, hq7, hq78⟩ := inv_197 hg.1
  have hac := ac_le (ν 1)
  have c1 : ∀ x : Int64, lg_cmp x x = 0 := ceq_s
  show fb_L_errors_2 (fl_L_errors (n + 3)) μ 0 (nI m) w = _
  unfold fb_L_errors_2
  rw [show f_L_about μ 1 = some (nL q7) from V_ab1 h.1.1 hq7 hq78, Option.bind_some, nL_32 (by omega), R_tubeOf h hq7 hq78, Option.bind_some, if_pos (show lg_cmp EX (-9000000000000000001) = 0 from ceq_s EX), show f_L_about μ 2 = some (nL q) from V_ab2 h.1.1 hq hq8, Option.bind_some, nL_32 (by omega), R_pipeOf h hq, Option.bind_some, if_pos (show lg_cmp EX (-9000000000000000001) = 0 from ceq_s EX), show f_L_about μ 4 = some (nL (ac (ν 1))) from V_ab4 h.1.1 hg, Option.bind_some, nL_32 (by omega), R_oldest h hg, Option.bind_some, if_pos (show lg_cmp EX (-9000000000000000001) = 0 from ceq_s EX), R_oldestm, Option.bind_some, if_pos (show lg_cmp EX (-9000000000000000001) = 0 from ceq_s EX)]
  exact er1 h hg hm hm4 hn
/-- errors says yes, and leaves the object as it is -/
theorem errors_1 {μ ν : Mem} (h : Rel μ ν) : f_L_errors μ = some (1, μ) := by
  obtain ⟨d, hg⟩ := h.1.2
  obtain ⟨m, hm, hm4⟩ := inv_196 hg.1
  obtain ⟨w, hw⟩ := now_ex h
  have c1 : ∀ x : Int64, lg_cmp x x = 0 := ceq_s
  have ha : nI m < 0 ∨ nI m ≤ nI m := Or.inr (Int32.le_refl _)
  unfold f_L_errors
  rw [hw, Option.bind_some, show f_L_about μ 0 = some (nL m) from V_ab0 h.1.1 hm hm4, Option.bind_some, nL_32 (by omega), R_about (by decide), Option.bind_some, if_pos (show lg_cmp EA (-9000000000000000002) = 0 from ceq_s EA), R_about (by decide), Option.bind_some, if_pos (show lg_cmp EA (-9000000000000000002) = 0 from ceq_s EA), R_siteOf h hm ha, Option.bind_some, if_pos (show lg_cmp EX (-9000000000000000001) = 0 from ceq_s EX), R_siteOf h hm (Or.inl (by decide)), Option.bind_some, if_pos (show lg_cmp EX (-9000000000000000001) = 0 from ceq_s EX)]
  by_cases e : m = 0
  · subst e
    rw [if_pos (show nI 0 = 0 from rfl)]
    exact er2 h hg hm hm4 hw
  · have h0 : 0 < m := by omega
    have hN := cf_le (bgn (fR (ν 1) 0)) 30 0
    have e6 := V_site (j := 6) h.1.1 hm hm4 h0 (by omega) (N_6 (by omega))
    rw [nI_L (by omega)] at e6
    rw [if_neg (nI_ne0 h0 (by omega)), show f_L_siteOf μ 0 9 = some EA from R_siteOf9 h hm hm4 h0, Option.bind_some, if_pos (show lg_cmp EA (-9000000000000000002) = 0 from ceq_s EA), show f_L_since μ 0 30 = some EX from R_since30 h hm hm4 h0, Option.bind_some, if_pos (show lg_cmp EX (-9000000000000000001) = 0 from ceq_s EX), show f_L_siteOf μ 0 6 = some (nL (cf (bgn (fR (ν 1) 0)) 0 30)) from e6, Option.bind_some, nL_32 (by omega), show f_L_layerOf μ 0 (nI (cf (bgn (fR (ν 1) 0)) 0 30)) 4 = some EX from R_layerOf h hm hm4 h0, Option.bind_some, if_pos (show lg_cmp EX (-9000000000000000001) = 0 from ceq_s EX), show f_L_layers μ 0 2 = some EA from R_layers h hm hm4 h0, Option.bind_some, if_pos (show lg_cmp EA (-9000000000000000002) = 0 from ceq_s EA),
      show f_L_tube μ 0 0 = some (EA, μ) from R_tube0 h hg hm hm4 h0, Option.bind_some, if_pos (show lg_cmp (EA, μ).1 (-9000000000000000002) = 0 from ceq_s EA), show f_L_pipe (EA, μ).2 0 (-1) = some (EX, μ) from R_pipe0 h hg, Option.bind_some, if_pos (show lg_cmp (EX, μ).1 (-9000000000000000001) = 0 from ceq_s EX), show f_L_fence (EX, μ).2 0 21 = some (EA, μ) from R_fence21 h hg hm hm4 h0, Option.bind_some, if_pos (show lg_cmp (EA, μ).1 (-9000000000000000002) = 0 from ceq_s EA), show f_L_goneIn (EA, μ).2 0 0 = some (EA, μ) from R_goneIn0 h hm hm4 h0, Option.bind_some, if_pos (show lg_cmp (EA, μ).1 (-9000000000000000002) = 0 from ceq_s EA), show f_L_reachedIn (EA, μ).2 0 30 0 = some (EX, μ) from R_reach30 h hm hm4 h0, Option.bind_some, if_pos (show lg_cmp (EX, μ).1 (-9000000000000000001) = 0 from ceq_s EX), show f_L_reachedIn (EX, μ).2 0 0 0 = some (EA, μ) from R_reach0 h hm hm4 h0, Option.bind_some, if_pos (show lg_cmp (EA, μ).1 (-9000000000000000002) = 0 from ceq_s EA), show f_L_bestFence (EA, μ).2 0 0 31 1 = some (EA, μ) from R_best h hm hm4 h0, Option.bind_some, if_pos (show lg_cmp (EA, μ).1 (-9000000000000000002) = 0 from ceq_s EA)]
    exact er2 h hg hm hm4 hw
