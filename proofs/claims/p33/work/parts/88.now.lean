/-! now: a number that depends on the ground alone -/
theorem about_congr {μ μ' : Mem} (h : μ' 0 = μ 0) (a : Int32) : f_L_about μ' a = f_L_about μ a := by
  unfold f_L_about f_X4_about
  rw [h]
theorem needSite_congr {μ μ' : Mem} (h : μ' 0 = μ 0) (a : Int32) : f_X4_needSite μ' a = f_X4_needSite μ a := by
  unfold f_X4_needSite
  rw [h]
theorem needPipe_congr {μ μ' : Mem} (h : μ' 0 = μ 0) (a : Int32) : f_X4_needPipe μ' a = f_X4_needPipe μ a := by
  unfold f_X4_needPipe
  rw [h]
theorem siteOf_congr {μ μ' : Mem} (h : μ' 0 = μ 0) (a b : Int32) : f_L_siteOf μ' a b = f_L_siteOf μ a b := by
  unfold f_L_siteOf f_X4_siteOf
  rw [needSite_congr h, h]
theorem since_congr {μ μ' : Mem} (h : μ' 0 = μ 0) (a b : Int32) : f_L_since μ' a b = f_L_since μ a b := by
  unfold f_L_since f_X4_since
  rw [needSite_congr h, h]
theorem tubeOf_congr {μ μ' : Mem} (h : μ' 0 = μ 0) (a b : Int32) : f_L_tubeOf μ' a b = f_L_tubeOf μ a b := by
  unfold f_L_tubeOf f_X4_tubeOf
  rw [h]
theorem pipeOf_congr {μ μ' : Mem} (h : μ' 0 = μ 0) (a b : Int32) : f_L_pipeOf μ' a b = f_L_pipeOf μ a b := by
  unfold f_L_pipeOf f_X4_pipeOf
  rw [needPipe_congr h, h]
theorem now_congr_l {μ μ' : Mem} (h : μ' 0 = μ 0) : ∀ n lab v3 v4 w1, fl_L_now μ' n lab v3 v4 w1 = fl_L_now μ n lab v3 v4 w1
  | 0, _, _, _, _ => rfl
  | n + 1, lab, v3, v4, w1 => by
    have ih : fl_L_now μ' n = fl_L_now μ n := by
      funext a b c e
      exact now_congr_l h n a b c e
    unfold fl_L_now
    split
    · unfold fb_L_now_1; rw [ih]; simp only [about_congr h]
    · unfold fb_L_now_2; rw [ih]; simp only [about_congr h]
    · unfold fb_L_now_3; rw [ih]; simp only [about_congr h, tubeOf_congr h]
    · unfold fb_L_now_4; rw [ih]; simp only [siteOf_congr h]
    · unfold fb_L_now_5; rw [ih]; simp only [about_congr h]
    · unfold fb_L_now_6; rw [ih]; simp only [since_congr h]
    · unfold fb_L_now_7; rw [ih]; simp only [pipeOf_congr h]
theorem now_congr {μ μ' : Mem} (h : μ' 0 = μ 0) : f_L_now μ' = f_L_now μ := now_congr_l h _ _ _ _ _
theorem q_two {μ : Mem} {cs : List Nat} {X : Option (Nat × Int32)} {Y : Option (Int32 × Mem)} (h : CallQ μ cs X Y) : ∃ k v, X = some (k, v) ∧ (k = 0 ∨ k ∈ cs) := by
  obtain ⟨k, v, b, ν', h1, h2, h3, h4⟩ := h
  refine ⟨k, v, h1, ?_⟩
  rcases h3 with ⟨e, _⟩ | ⟨i, e, _⟩
  · exact Or.inl e
  · exact Or.inr (List.mem_of_getElem? e)
theorem tot_about {μ ν : Mem} (h : Rel μ ν) (a : Int32) : ∃ w, f_L_about μ a = some w := by
  obtain ⟨k, v, h1, h2⟩ := q_two (call_about a h)
  unfold f_L_about
  rw [h1, Option.bind_some]
  simp only [List.mem_cons, List.not_mem_nil, or_false] at h2
  rcases h2 with rfl | rfl <;> exact ⟨_, rfl⟩
theorem tot_siteOf {μ ν : Mem} (h : Rel μ ν) (a b : Int32) : ∃ w, f_L_siteOf μ a b = some w := by
  obtain ⟨k, v, h1, h2⟩ := q_two (call_siteOf a b h)
  unfold f_L_siteOf
  rw [h1, Option.bind_some]
  simp only [List.mem_cons, List.not_mem_nil, or_false] at h2
  rcases h2 with rfl | rfl | rfl <;> exact ⟨_, rfl⟩
theorem tot_since {μ ν : Mem} (h : Rel μ ν) (a b : Int32) : ∃ w, f_L_since μ a b = some w := by
  obtain ⟨k, v, h1, h2⟩ := q_two (call_since a b h)
  unfold f_L_since
  rw [h1, Option.bind_some]
  simp only [List.mem_cons, List.not_mem_nil, or_false] at h2
  rcases h2 with rfl | rfl <;> exact ⟨_, rfl⟩
theorem tot_tubeOf {μ ν : Mem} (h : Rel μ ν) (a b : Int32) : ∃ w, f_L_tubeOf μ a b = some w := by
  obtain ⟨k, v, h1, h2⟩ := q_two (call_tubeOf a b h)
  unfold f_L_tubeOf
  rw [h1, Option.bind_some]
  simp only [List.mem_cons, List.not_mem_nil, or_false] at h2
  rcases h2 with rfl | rfl | rfl <;> exact ⟨_, rfl⟩
theorem tot_pipeOf {μ ν : Mem} (h : Rel μ ν) (a b : Int32) : ∃ w, f_L_pipeOf μ a b = some w := by
  obtain ⟨k, v, h1, h2⟩ := q_two (call_pipeOf a b h)
  unfold f_L_pipeOf
  rw [h1, Option.bind_some]
  simp only [List.mem_cons, List.not_mem_nil, or_false] at h2
  rcases h2 with rfl | rfl | rfl <;> exact ⟨_, rfl⟩
theorem nw1 {μ ν : Mem} (h : Rel μ ν) : ∀ t i n w, i + t = 12 → ∃ w', fl_L_now μ (n + t + 1) 1 (nI i) 0 w = fl_L_now μ n 2 0 0 w'
  | 0, i, n, w, hi => by
    refine ⟨w, ?_⟩
    show fb_L_now_1 μ (fl_L_now μ n) (nI i) 0 w = _
    unfold fb_L_now_1
    rw [if_pos (by rw [show (12 : Int32) = nI 12 from rfl, le_nI (by omega) (by omega)]; omega)]
  | t + 1, i, n, w, hi => by
    obtain ⟨a, ha⟩ := tot_about h (nI i)
    obtain ⟨w', h'⟩ := nw1 h t (i + 1) n (31 * w + a) (by omega)
    refine ⟨w', ?_⟩
    show fb_L_now_1 μ (fl_L_now μ (n + t + 1)) (nI i) 0 w = _
    unfold fb_L_now_1
    rw [if_neg (fun x => by rw [show (12 : Int32) = nI 12 from rfl, le_nI (by omega) (by omega)] at x; omega), ha, Option.bind_some, show nI i + 1 = nI (i + 1) from add_nI i 1]
    exact h'
theorem nw4 {μ ν : Mem} (h : Rel μ ν) (z : Int32) : ∀ t i n w, i + t = 9 → ∃ w', fl_L_now μ (n + t + 1) 4 z (nI i) w = fl_L_now μ n 6 z 0 w'
  | 0, i, n, w, hi => by
    refine ⟨w, ?_⟩
    show fb_L_now_4 μ (fl_L_now μ n) z (nI i) w = _
    unfold fb_L_now_4
    rw [if_pos (by rw [show (9 : Int32) = nI 9 from rfl, le_nI (by omega) (by omega)]; omega)]
  | t + 1, i, n, w, hi => by
    obtain ⟨a, ha⟩ := tot_siteOf h z (nI i)
    obtain ⟨w', h'⟩ := nw4 h z t (i + 1) n (31 * w + a) (by omega)
    refine ⟨w', ?_⟩
    show fb_L_now_4 μ (fl_L_now μ (n + t + 1)) z (nI i) w = _
    unfold fb_L_now_4
    rw [if_neg (fun x => by rw [show (9 : Int32) = nI 9 from rfl, le_nI (by omega) (by omega)] at x; omega), ha, Option.bind_some, show nI i + 1 = nI (i + 1) from add_nI i 1]
    exact h'
theorem nw6 {μ ν : Mem} (h : Rel μ ν) (z : Nat) : ∀ t i n w, i + t = 30 → ∃ w', fl_L_now μ (n + t + 1) 6 (nI z) (nI i) w = fl_L_now μ n 2 (nI (z + 1)) 0 w'
  | 0, i, n, w, hi => by
    refine ⟨w, ?_⟩
    show fb_L_now_6 μ (fl_L_now μ n) (nI z) (nI i) w = _
    unfold fb_L_now_6
    rw [if_pos (by rw [show (30 : Int32) = nI 30 from rfl, le_nI (by omega) (by omega)]; omega), show nI z + 1 = nI (z + 1) from add_nI z 1]
  | t + 1, i, n, w, hi => by
    obtain ⟨a, ha⟩ := tot_since h (nI z) (nI i)
    obtain ⟨w', h'⟩ := nw6 h z t (i + 1) n (31 * w + a) (by omega)
    refine ⟨w', ?_⟩
    show fb_L_now_6 μ (fl_L_now μ (n + t + 1)) (nI z) (nI i) w = _
    unfold fb_L_now_6
    rw [if_neg (fun x => by rw [show (30 : Int32) = nI 30 from rfl, le_nI (by omega) (by omega)] at x; omega), ha, Option.bind_some, show nI i + 1 = nI (i + 1) from add_nI i 1]
    exact h'
theorem nw2 {μ ν : Mem} (h : Rel μ ν) {m : Nat} (hm : ν 1 196 = nI m) (hm4 : m ≤ 4) : ∀ t z n w, z + t = m → ∃ w', fl_L_now μ (n + 42 * t + 1) 2 (nI z) 0 w = fl_L_now μ n 3 0 0 w'
  | 0, z, n, w, hz => by
    refine ⟨w, ?_⟩
    show fb_L_now_2 μ (fl_L_now μ n) (nI z) 0 w = _
    unfold fb_L_now_2
    rw [show f_L_about μ 0 = some (nL m) from V_ab0 h.1.1 hm hm4, Option.bind_some, nI_L (by omega), if_pos ((cge (by omega) (by omega)).mpr (by omega))]
  | t + 1, z, n, w, hz => by
    obtain ⟨w1, h1⟩ := nw4 h (nI z) 9 0 (n + 42 * t + 1 + 30 + 1) w (by omega)
    obtain ⟨w2, h2⟩ := nw6 h z 30 0 (n + 42 * t + 1) w1 (by omega)
    obtain ⟨w3, h3⟩ := nw2 h hm hm4 t (z + 1) n w2 (by omega)
    refine ⟨w3, ?_⟩
    rw [show n + 42 * (t + 1) + 1 = (n + 42 * t + 1 + 30 + 1 + 9 + 1) + 1 by omega]
    show fb_L_now_2 μ (fl_L_now μ (n + 42 * t + 1 + 30 + 1 + 9 + 1)) (nI z) 0 w = _
    unfold fb_L_now_2
    rw [show f_L_about μ 0 = some (nL m) from V_ab0 h.1.1 hm hm4, Option.bind_some, nI_L (by omega), if_neg (fun x => by rw [cge (by omega) (by omega)] at x; omega)]
    exact h1.trans (h2.trans h3)
theorem nw3 {μ ν : Mem} (h : Rel μ ν) {q : Nat} (hq : ν 1 197 = nI q) (hq8 : q ≤ 8) : ∀ t i n w, i + t = q → ∃ w', fl_L_now μ (n + t + 1) 3 (nI i) 0 w = fl_L_now μ n 5 0 0 w'
  | 0, i, n, w, hi => by
    refine ⟨w, ?_⟩
    show fb_L_now_3 μ (fl_L_now μ n) (nI i) 0 w = _
    unfold fb_L_now_3
    rw [show f_L_about μ 1 = some (nL q) from V_ab1 h.1.1 hq hq8, Option.bind_some, nI_L (by omega), if_pos ((cge (by omega) (by omega)).mpr (by omega))]
  | t + 1, i, n, w, hi => by
    obtain ⟨a, ha⟩ := tot_tubeOf h (nI i) 1
    obtain ⟨b, hb⟩ := tot_tubeOf h (nI i) 2
    obtain ⟨w', h'⟩ := nw3 h hq hq8 t (i + 1) n (31 * w + a + 97 * b) (by omega)
    refine ⟨w', ?_⟩
    show fb_L_now_3 μ (fl_L_now μ (n + t + 1)) (nI i) 0 w = _
    unfold fb_L_now_3
    rw [show f_L_about μ 1 = some (nL q) from V_ab1 h.1.1 hq hq8, Option.bind_some, nI_L (by omega), if_neg (fun x => by rw [cge (by omega) (by omega)] at x; omega), ha, Option.bind_some, hb, Option.bind_some, show nI i + 1 = nI (i + 1) from add_nI i 1]
    exact h'
theorem nw7 {μ ν : Mem} (h : Rel μ ν) (p : Nat) : ∀ t i n w, i + t = 5 → ∃ w', fl_L_now μ (n + t + 1) 7 (nI p) (nI i) w = fl_L_now μ n 5 (nI (p + 1)) 0 w'
  | 0, i, n, w, hi => by
    refine ⟨w, ?_⟩
    show fb_L_now_7 μ (fl_L_now μ n) (nI p) (nI i) w = _
    unfold fb_L_now_7
    rw [if_pos (by rw [show (5 : Int32) = nI 5 from rfl, le_nI (by omega) (by omega)]; omega), show nI p + 1 = nI (p + 1) from add_nI p 1]
  | t + 1, i, n, w, hi => by
    obtain ⟨a, ha⟩ := tot_pipeOf h (nI p) (nI i)
    obtain ⟨w', h'⟩ := nw7 h p t (i + 1) n (31 * w + a) (by omega)
    refine ⟨w', ?_⟩
    show fb_L_now_7 μ (fl_L_now μ (n + t + 1)) (nI p) (nI i) w = _
    unfold fb_L_now_7
    rw [if_neg (fun x => by rw [show (5 : Int32) = nI 5 from rfl, le_nI (by omega) (by omega)] at x; omega), ha, Option.bind_some, show nI i + 1 = nI (i + 1) from add_nI i 1]
    exact h'
theorem nw5 {μ ν : Mem} (h : Rel μ ν) {q : Nat} (hq : ν 1 198 = nI q) (hq8 : q ≤ 8) : ∀ t i n w, i + t = q → ∃ w', fl_L_now μ (n + 7 * t + 1) 5 (nI i) 0 w = some w'
  | 0, i, n, w, hi => by
    refine ⟨w, ?_⟩
    show fb_L_now_5 μ (fl_L_now μ n) (nI i) 0 w = _
    unfold fb_L_now_5
    rw [show f_L_about μ 2 = some (nL q) from V_ab2 h.1.1 hq hq8, Option.bind_some, nI_L (by omega), if_pos ((cge (by omega) (by omega)).mpr (by omega))]
  | t + 1, i, n, w, hi => by
    obtain ⟨w1, h1⟩ := nw7 h i 5 0 (n + 7 * t + 1) w (by omega)
    obtain ⟨w2, h2⟩ := nw5 h hq hq8 t (i + 1) n w1 (by omega)
    refine ⟨w2, ?_⟩
    rw [show n + 7 * (t + 1) + 1 = (n + 7 * t + 1 + 5 + 1) + 1 by omega]
    show fb_L_now_5 μ (fl_L_now μ (n + 7 * t + 1 + 5 + 1)) (nI i) 0 w = _
    unfold fb_L_now_5
    rw [show f_L_about μ 2 = some (nL q) from V_ab2 h.1.1 hq hq8, Option.bind_some, nI_L (by omega), if_neg (fun x => by rw [cge (by omega) (by omega)] at x; omega)]
    exact h1.trans h2
theorem now_ex {μ ν : Mem} (h : Rel μ ν) : ∃ w, f_L_now μ = some w := by
  obtain ⟨d, hg⟩ := h.1.2
  obtain ⟨m, hm, hm4⟩ := inv_196 hg.1
  obtain ⟨q, hq, hq8⟩ := inv_197 hg.1
  obtain ⟨p, hp, hp8⟩ := inv_198 hg.1
  obtain ⟨e, he⟩ : ∃ e, 400 = e + 7 * p + 1 + q + 1 + 42 * m + 1 + 12 + 1 := ⟨400 - (7 * p + 1 + q + 1 + 42 * m + 1 + 12 + 1), by omega⟩
  obtain ⟨w1, h1⟩ := nw1 h 12 0 (e + 7 * p + 1 + q + 1 + 42 * m + 1) 139 (by omega)
  obtain ⟨w2, h2⟩ := nw2 h hm hm4 m 0 (e + 7 * p + 1 + q + 1) w1 (by omega)
  obtain ⟨w3, h3⟩ := nw3 h hq hq8 q 0 (e + 7 * p + 1) w2 (by omega)
  obtain ⟨w4, h4⟩ := nw5 h hp hp8 p 0 e w3 (by omega)
  refine ⟨w4, ?_⟩
  show fl_L_now μ 400 1 (nI 0) 0 139 = _
  rw [he]
  exact h1.trans (h2.trans (h3.trans h4))
