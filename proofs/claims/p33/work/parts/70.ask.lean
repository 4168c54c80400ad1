/-! the questions -/
theorem q_no {μ ν : Mem} {X : Option (Nat × Int32)} {Y : Option (Int32 × Mem)} {cs : List Nat} {k i : Nat} {v : Int32} (h : Rel μ ν) (hi : cs[i]? = some k) (hX : X = some (k, v)) (hY : Y = some (0, rf ν (nI (i + 1)))) : CallQ μ cs X Y :=
  ⟨k, v, 0, _, hX, hY, Or.inr ⟨i, hi, rf_0⟩, rel_rf h⟩
theorem q_ok {μ ν : Mem} {X : Option (Nat × Int32)} {Y : Option (Int32 × Mem)} {cs : List Nat} {v : Int32} (h : Rel μ ν) (hX : X = some (0, v)) (hY : Y = some (v, rf ν 0)) : CallQ μ cs X Y :=
  ⟨0, v, v, _, hX, hY, Or.inl ⟨rfl, rf_0, rfl⟩, rel_rf h⟩
def hst (r : Row) (p : Nat) (v : Int32) : Int32 := v + r (158 + 5 * p)
theorem X0_heaves {D : Nat} {r : Row} (h : Inv D r) : f_X0_heavesOfAll (enc r) = some (itr (hst r) 0 (pn r) 0) := by
  obtain ⟨a, ha, ha8⟩ := inv_198 h
  have hl := loop_itr (fun n v k => fl_X0_heavesOfAll (enc r) n v (nI k)) (hst r) (fun v => some v) a
    (fun n v => by
      show fb_X0_heavesOfAll_1 (enc r) (fl_X0_heavesOfAll (enc r) n) v (nI a) = _
      unfold fb_X0_heavesOfAll_1
      simp (maxSteps := 2000000) (disch := omega) only [↓Lm1, L0, L1, L2, L3, L4, L5, L6, L7, L8, L9, L10, L11, L12, L14, L15, L16, L20, L21, L29, L30, L31, L32, L35, L45, L48, L50, L60, L68, L97, L99, L100, L101, L102, L112, L115, L116, L119, L120, L128, L140, L156, L196, L197, L198, L199, L200, L201, L202, L203, L204, L205, L255, L400, L410, L1000, L2665, L2870, L9999, L10000, L100000, L1000000, le_nI, lt_nI, eq_nI, oob_nI, cl_nI, sub_nI, add_nI, mul_nI, b2i_t2, b2i_f2, n10, n01, em1, em2, lm1, lm2, lm3, lm4, if_true, if_false, Option.bind_some, Nat.add_zero, Bool.false_eq_true, not_true, not_false_eq_true, enc_hi, ha, Nat.le_refl])
    (fun n v k hk => by
      have hak : ¬ a ≤ k := by omega
      have hk4 : ¬ 8 ≤ k := by omega
      show fb_X0_heavesOfAll_1 (enc r) (fl_X0_heavesOfAll (enc r) n) v (nI k) = _
      unfold fb_X0_heavesOfAll_1 hst
      simp (maxSteps := 2000000) (disch := omega) only [↓Lm1, L0, L1, L2, L3, L4, L5, L6, L7, L8, L9, L10, L11, L12, L14, L15, L16, L20, L21, L29, L30, L31, L32, L35, L45, L48, L50, L60, L68, L97, L99, L100, L101, L102, L112, L115, L116, L119, L120, L128, L140, L156, L196, L197, L198, L199, L200, L201, L202, L203, L204, L205, L255, L400, L410, L1000, L2665, L2870, L9999, L10000, L100000, L1000000, le_nI, lt_nI, eq_nI, oob_nI, cl_nI, sub_nI, add_nI, mul_nI, b2i_t2, b2i_f2, n10, n01, em1, em2, lm1, lm2, lm3, lm4, if_true, if_false, Option.bind_some, Nat.add_zero, Bool.false_eq_true, not_true, not_false_eq_true, enc_hi, ha, hak, hk4]) a FU 0 0 (fu_lt (by omega)) (by omega)
  rw [pn_of ha ha8]
  exact hl
theorem X5_heaves {D : Nat} {r : Row} (h : Inv D r) : f_X5_heaves r = some (itr (hst r) 0 (pn r) 0) := by
  obtain ⟨a, ha, ha8⟩ := inv_198 h
  have hl := loop_itr (fun n v k => fl_X5_heaves r n v (nI k)) (hst r) (fun v => some v) a
    (fun n v => by
      show fb_X5_heaves_1 r (fl_X5_heaves r n) v (nI a) = _
      unfold fb_X5_heaves_1
      simp (maxSteps := 2000000) (disch := omega) only [↓Lm1, L0, L1, L2, L3, L4, L5, L6, L7, L8, L9, L10, L11, L12, L14, L15, L16, L20, L21, L29, L30, L31, L32, L35, L45, L48, L50, L60, L68, L97, L99, L100, L101, L102, L112, L115, L116, L119, L120, L128, L140, L156, L196, L197, L198, L199, L200, L201, L202, L203, L204, L205, L255, L400, L410, L1000, L2665, L2870, L9999, L10000, L100000, L1000000, le_nI, lt_nI, eq_nI, oob_nI, cl_nI, sub_nI, add_nI, mul_nI, b2i_t2, b2i_f2, n10, n01, em1, em2, lm1, lm2, lm3, lm4, if_true, if_false, Option.bind_some, Nat.add_zero, Bool.false_eq_true, not_true, not_false_eq_true, ha, Nat.le_refl])
    (fun n v k hk => by
      have hak : ¬ a ≤ k := by omega
      have q1 : ¬ 205 ≤ 158 + 5 * k := by omega
      have e1 : 156 + 5 * k + 2 = 158 + 5 * k := by omega
      show fb_X5_heaves_1 r (fl_X5_heaves r n) v (nI k) = _
      unfold fb_X5_heaves_1 hst
      simp (maxSteps := 2000000) (disch := omega) only [↓Lm1, L0, L1, L2, L3, L4, L5, L6, L7, L8, L9, L10, L11, L12, L14, L15, L16, L20, L21, L29, L30, L31, L32, L35, L45, L48, L50, L60, L68, L97, L99, L100, L101, L102, L112, L115, L116, L119, L120, L128, L140, L156, L196, L197, L198, L199, L200, L201, L202, L203, L204, L205, L255, L400, L410, L1000, L2665, L2870, L9999, L10000, L100000, L1000000, le_nI, lt_nI, eq_nI, oob_nI, cl_nI, sub_nI, add_nI, mul_nI, b2i_t2, b2i_f2, n10, n01, em1, em2, lm1, lm2, lm3, lm4, if_true, if_false, Option.bind_some, Nat.add_zero, Bool.false_eq_true, not_true, not_false_eq_true, ha, hak, e1, q1]) a FU 0 0 (fu_lt (by omega)) (by omega)
  rw [pn_of ha ha8]
  exact hl
theorem call_about {μ ν : Mem} (a : Int32) (h : Rel μ ν) : CallQ μ [1] (f_X4_about μ a) (f_X5_about ν a) := by
  obtain ⟨d, hg⟩ := h.1.2
  have hn : μ 0 = enc (ν 1) := h.1.1
  by_cases hr : (0 : Int32) ≤ a ∧ a ≤ 11
  · obtain ⟨j, hj, rfl⟩ := rng_nI (n := 11) (by omega) hr
    have key : ∃ v, f_X0_numberOf (enc (ν 1)) (nI j) = some v ∧ fb_X5_about_1 (nI j) (fl_X5_about (nI j) 999999999) ν 0 = some (v, rf ν 0) := by
      unfold f_X0_numberOf fb_X5_about_1
      have er : (f_X5_refused ν 0) = some (0, rf ν 0) := rfl
      rw [er, Option.bind_some, X0_frozenCells hg.1, X0_layersOfAll hg.1, X0_heaves hg.1]
      have r1 : rf ν 0 1 = ν 1 := rf_o (ν := ν) (a := 0) (i := 1) (by omega)
      simp only [r1, X5_allCells hg.1, X5_allLayers hg.1, X5_heaves hg.1]
      have : j = 0 ∨ j = 1 ∨ j = 2 ∨ j = 3 ∨ j = 4 ∨ j = 5 ∨ j = 6 ∨ j = 7 ∨ j = 8 ∨ j = 9 ∨ j = 10 ∨ j = 11 := by omega
      rcases this with e | e | e | e | e | e | e | e | e | e | e | e <;> subst e <;> exact ⟨_, rfl, rfl⟩
    obtain ⟨v, k1, k2⟩ := key
    refine q_ok (v := v) h ?_ ?_
    · unfold f_X4_about
      rw [X4_needRange_y hr, Option.bind_some, if_pos rfl, hn, k1]
      rfl
    · unfold f_X5_about
      rw [X5_in_y hr (by decide) (by decide), Option.bind_some, if_neg i10]
      exact k2
  · refine q_no (k := 1) (i := 0) (v := 0) h rfl ?_ ?_
    · unfold f_X4_about
      rw [X4_needRange_n hr]
      rfl
    · unfold f_X5_about
      rw [X5_in_n hr (by decide) (by decide), Option.bind_some, if_pos rfl]
      show fb_X5_about_1 a (fl_X5_about a 999999999) ν 1 = _
      exact ref_no (t := 1) (by decide) _
theorem X4_needSite_y {μ ν : Mem} {j m : Nat} (hn : μ 0 = enc (ν 1)) (h : ν 1 196 = nI m) (hm : m ≤ 4) (hj : j < m) : f_X4_needSite μ (nI j) = some 0 := by
  unfold f_X4_needSite
  rw [hn, X0_hasSite_y h hm hj, Option.bind_some, if_neg i10]
theorem X4_needSite_n {μ ν : Mem} {x : Int32} {m : Nat} (hn : μ 0 = enc (ν 1)) (h : ν 1 196 = nI m) (hx : x < 0 ∨ nI m ≤ x) : f_X4_needSite μ x = some 3 := by
  unfold f_X4_needSite
  rw [hn, X0_hasSite_n h hx, Option.bind_some, if_pos rfl]
theorem X4_needPipe_y {μ ν : Mem} {j m : Nat} (hn : μ 0 = enc (ν 1)) (h : ν 1 198 = nI m) (hm : m ≤ 8) (hj : j < m) : f_X4_needPipe μ (nI j) = some 0 := by
  unfold f_X4_needPipe
  rw [hn, X0_hasPipe_y h hm hj, Option.bind_some, if_neg i10]
theorem X4_needPipe_n {μ ν : Mem} {x : Int32} {m : Nat} (hn : μ 0 = enc (ν 1)) (h : ν 1 198 = nI m) (hx : x < 0 ∨ nI m ≤ x) : f_X4_needPipe μ x = some 3 := by
  unfold f_X4_needPipe
  rw [hn, X0_hasPipe_n h hx, Option.bind_some, if_pos rfl]
theorem X4_needCell_y {j : Nat} (hj : j < 30) : f_X4_needCell (nI j) = some 0 := by
  unfold f_X4_needCell
  rw [if_neg (nI_pos (by omega)), if_pos (show nI j < (30 : Int32) from (lt_nI (b := 30) (by omega) (by omega)).mpr hj)]
theorem X4_needCell_n {x : Int32} (h : x < 0 ∨ nI 30 ≤ x) : f_X4_needCell x = some 3 := by
  unfold f_X4_needCell
  by_cases h1 : x < 0
  · rw [if_pos h1]
  · rw [if_neg h1, if_neg (show ¬ x < (30 : Int32) from Int32.not_lt.mpr (h.resolve_left h1))]
theorem call_siteOf {μ ν : Mem} (a1 a2 : Int32) (h : Rel μ ν) : CallQ μ [3, 1] (f_X4_siteOf μ a1 a2) (f_X5_siteOf ν a1 a2) := by
  obtain ⟨d, hg⟩ := h.1.2
  have hn : μ 0 = enc (ν 1) := h.1.1
  obtain ⟨m, hm, hm4⟩ := inv_196 hg.1
  rcases in_cases a1 m (by omega) with ⟨z, hz, rfl⟩ | hx
  · have oj : ¬ oob (nI z) 4 := by rw [oob_nI (by omega)]; omega
    have cj : (nI z).toNatClampNeg = z := cl_nI (by omega)
    have hz4 : z < 4 := by omega
    by_cases hr : (0 : Int32) ≤ a2 ∧ a2 ≤ 8
    · obtain ⟨j, hj, rfl⟩ := rng_nI (n := 8) (by omega) hr
      have key : ∃ v, f_X2_numberOf (enc (ν 1)) z (nI j) = some v ∧ fb_X5_siteOf_1 (nI z) (nI j) (fl_X5_siteOf (nI z) (nI j) 999999999) ν 0 = some (v, rf ν 0) := by
        unfold f_X2_numberOf fb_X5_siteOf_1
        have er : (f_X5_refused ν 0) = some (0, rf ν 0) := rfl
        have g1 : f_X2_frozenWithin (enc (ν 1)) z 30 = some (nI (cf (fR (ν 1) z) 0 30)) := E2_frozenWithin (e := 30) hz4 (by omega)
        have g2 : f_X2_layersWithin (enc (ν 1)) z 30 = some (nI (cf (bgn (fR (ν 1) z)) 0 30)) := E2_layersWithin (e := 30) hz4 (by omega)
        have g3 : f_X2_lowestWithin (enc (ν 1)) z 30 = some (ld (fR (ν 1) z) 30) := E2_lowestWithin (e := 30) hz4 (by omega)
        have g4 : f_X2_isFrozen (enc (ν 1)) z 0 = some (b2i (fR (ν 1) z 0)) := E2_isFrozen (c := 0) hz4 (by omega)
        have g5 : f_X5_frozen (ν 1) (nI z) 0 = some (b2i (fR (ν 1) z 0)) := X5_frozen (c := 0) hz4 (by omega)
        rw [er, Option.bind_some, g1, g2, g3, g4]
        have r1 : rf ν 0 1 = ν 1 := rf_o (ν := ν) (a := 0) (i := 1) (by omega)
        have i35 : (35 : Int32) * nI z + nI j = nI (35 * z + j) := by rw [show (35 : Int32) = nI 35 from rfl, mul_nI, add_nI]
        have o2 : ¬ oob (nI (35 * z + j)) 205 := by rw [oob_nI (by omega)]; omega
        have c2 : (nI (35 * z + j)).toNatClampNeg = 35 * z + j := cl_nI (by omega)
        simp only [r1, X5_cells hz4, X5_countLayers hz4, X5_lowest hz4, g5, i35, o2, c2, if_false]
        have : j = 0 ∨ j = 1 ∨ j = 2 ∨ j = 3 ∨ j = 4 ∨ j = 5 ∨ j = 6 ∨ j = 7 ∨ j = 8 := by omega
        rcases this with e | e | e | e | e | e | e | e | e <;> subst e
        · exact ⟨_, rfl, by rw [enc_lo (by omega)]; rfl⟩
        · exact ⟨_, rfl, by rw [enc_lo (by omega)]; rfl⟩
        · exact ⟨_, rfl, by rw [enc_lo (by omega)]; rfl⟩
        · exact ⟨_, rfl, by rw [enc_lo (by omega)]; rfl⟩
        · exact ⟨_, rfl, by rw [enc_lo (by omega)]; rfl⟩
        · exact ⟨_, rfl, rfl⟩
        · exact ⟨_, rfl, rfl⟩
        · exact ⟨_, rfl, rfl⟩
        · cases fR (ν 1) z 0
          · exact ⟨_, rfl, rfl⟩
          · exact ⟨_, rfl, rfl⟩
      obtain ⟨v, k1, k2⟩ := key
      refine q_ok (v := v) h ?_ ?_
      · unfold f_X4_siteOf
        rw [X4_needSite_y hn hm hm4 hz, Option.bind_some, if_pos rfl, X4_needRange_y hr, Option.bind_some, if_pos rfl, if_neg oj, cj, hn, k1]
        rfl
      · unfold f_X5_siteOf
        rw [X5_isSite_y hm hm4 hz, Option.bind_some, if_neg i10, X5_in_y hr (by decide) (by decide), Option.bind_some, if_neg i10]
        exact k2
    · refine q_no (k := 1) (i := 1) (v := 0) h rfl ?_ ?_
      · unfold f_X4_siteOf
        rw [X4_needSite_y hn hm hm4 hz, Option.bind_some, if_pos rfl, X4_needRange_n hr]
        rfl
      · unfold f_X5_siteOf
        rw [X5_isSite_y hm hm4 hz, Option.bind_some, if_neg i10, X5_in_n hr (by decide) (by decide), Option.bind_some, if_pos rfl]
        show fb_X5_siteOf_1 (nI z) a2 (fl_X5_siteOf (nI z) a2 999999999) ν 2 = _
        exact ref_no (t := 2) (by decide) _
  · refine q_no (k := 3) (i := 0) (v := 0) h rfl ?_ ?_
    · unfold f_X4_siteOf
      rw [X4_needSite_n hn hm hx]
      rfl
    · unfold f_X5_siteOf
      rw [X5_isSite_n hm hm4 hx, Option.bind_some, if_pos rfl]
      show fb_X5_siteOf_1 a1 a2 (fl_X5_siteOf a1 a2 999999999) ν 1 = _
      exact ref_no (t := 1) (by decide) _
theorem call_since {μ ν : Mem} (a1 a2 : Int32) (h : Rel μ ν) : CallQ μ [3] (f_X4_since μ a1 a2) (f_X5_since ν a1 a2) := by
  obtain ⟨d, hg⟩ := h.1.2
  have hn : μ 0 = enc (ν 1) := h.1.1
  obtain ⟨m, hm, hm4⟩ := inv_196 hg.1
  rcases in_cases a1 m (by omega) with ⟨z, hz, rfl⟩ | hx
  · have oj : ¬ oob (nI z) 4 := by rw [oob_nI (by omega)]; omega
    have cj : (nI z).toNatClampNeg = z := cl_nI (by omega)
    have hz4 : z < 4 := by omega
    rcases in_cases a2 30 (by omega) with ⟨c, hc, rfl⟩ | hx2
    · have oc : ¬ oob (nI c) 30 := by rw [oob_nI (by omega)]; omega
      have cc : (nI c).toNatClampNeg = c := cl_nI (by omega)
      refine q_ok (v := if 0 < ν 1 (35 * z + (5 + c)) then ν 1 (35 * z + (5 + c)) else -1) h ?_ ?_
      · unfold f_X4_since
        rw [X4_needSite_y hn hm hm4 hz, Option.bind_some, if_pos rfl, X4_needCell_y hc, Option.bind_some, if_pos rfl, if_neg oj, if_neg oc, cj, cc, hn, enc_c (isC_c hz4 hc)]
      · unfold f_X5_since
        rw [X5_isSite_y hm hm4 hz, Option.bind_some, if_neg i10, X5_isCell_y hc, Option.bind_some, if_neg i10]
        show fb_X5_since_1 (nI z) (nI c) (fl_X5_since (nI z) (nI c) 999999999) ν 0 = _
        unfold fb_X5_since_1
        have er : (f_X5_refused ν 0) = some (0, rf ν 0) := rfl
        have r1 : rf ν 0 1 = ν 1 := rf_o (ν := ν) (a := 0) (i := 1) (by omega)
        have o2 : ¬ oob (nI (35 * z + (5 + c))) 205 := by rw [oob_nI (by omega)]; omega
        have c2 : (nI (35 * z + (5 + c))).toNatClampNeg = 35 * z + (5 + c) := cl_nI (by omega)
        rw [er, Option.bind_some, if_pos rfl]
        simp only [r1, X5_frozen hz4 hc, X5_cell, Option.bind_some, o2, c2, if_false]
        unfold fR
        by_cases hp : 0 < ν 1 (35 * z + (5 + c))
        · rw [decide_eq_true hp, b2i_t, if_neg i10, if_pos hp]
        · rw [decide_eq_false hp, b2i_f, if_pos rfl, if_neg hp]
    · refine q_no (k := 3) (i := 0) (v := 0) h rfl ?_ ?_
      · unfold f_X4_since
        rw [X4_needSite_y hn hm hm4 hz, Option.bind_some, if_pos rfl, X4_needCell_n hx2]
        rfl
      · unfold f_X5_since
        rw [X5_isSite_y hm hm4 hz, Option.bind_some, if_neg i10, X5_isCell_n hx2, Option.bind_some, if_pos rfl]
        show fb_X5_since_1 (nI z) a2 (fl_X5_since (nI z) a2 999999999) ν 1 = _
        exact ref_no (t := 1) (by decide) _
  · refine q_no (k := 3) (i := 0) (v := 0) h rfl ?_ ?_
    · unfold f_X4_since
      rw [X4_needSite_n hn hm hx]
      rfl
    · unfold f_X5_since
      rw [X5_isSite_n hm hm4 hx, Option.bind_some, if_pos rfl]
      show fb_X5_since_1 a1 a2 (fl_X5_since a1 a2 999999999) ν 1 = _
      exact ref_no (t := 1) (by decide) _
theorem call_pipeOf {μ ν : Mem} (a1 a2 : Int32) (h : Rel μ ν) : CallQ μ [3, 1] (f_X4_pipeOf μ a1 a2) (f_X5_pipeOf ν a1 a2) := by
  obtain ⟨d, hg⟩ := h.1.2
  have hn : μ 0 = enc (ν 1) := h.1.1
  obtain ⟨m, hm, hm8⟩ := inv_198 hg.1
  rcases in_cases a1 m (by omega) with ⟨p, hp, rfl⟩ | hx
  · have oj : ¬ oob (nI p) 8 := by rw [oob_nI (by omega)]; omega
    have cj : (nI p).toNatClampNeg = p := cl_nI (by omega)
    by_cases hr : (0 : Int32) ≤ a2 ∧ a2 ≤ 4
    · obtain ⟨j, hj, rfl⟩ := rng_nI (n := 4) (by omega) hr
      refine q_ok (v := ν 1 (156 + 5 * p + j)) h ?_ ?_
      · unfold f_X4_pipeOf
        rw [X4_needPipe_y hn hm hm8 hp, Option.bind_some, if_pos rfl, X4_needRange_y hr, Option.bind_some, if_pos rfl, hn]
        unfold f_X0_numberOfPipe
        rw [if_neg oj, if_neg oj, if_neg oj, if_neg oj, if_neg oj, cj, enc_hi (by omega), enc_hi (by omega), enc_hi (by omega), enc_hi (by omega), enc_hi (by omega)]
        have : j = 0 ∨ j = 1 ∨ j = 2 ∨ j = 3 ∨ j = 4 := by omega
        rcases this with e | e | e | e | e <;> subst e
        · rfl
        · rw [show 156 + 5 * p + 1 = 157 + 5 * p by omega]; rfl
        · rw [show 156 + 5 * p + 2 = 158 + 5 * p by omega]; rfl
        · rw [show 156 + 5 * p + 3 = 159 + 5 * p by omega]; rfl
        · rw [show 156 + 5 * p + 4 = 160 + 5 * p by omega]; rfl
      · unfold f_X5_pipeOf
        rw [X5_isPipe_y hm hm8 hp, Option.bind_some, if_neg i10, X5_in_y hr (by decide) (by decide), Option.bind_some, if_neg i10]
        show fb_X5_pipeOf_1 (nI p) (nI j) (fl_X5_pipeOf (nI p) (nI j) 999999999) ν 0 = _
        unfold fb_X5_pipeOf_1
        have er : (f_X5_refused ν 0) = some (0, rf ν 0) := rfl
        have r1 : rf ν 0 1 = ν 1 := rf_o (ν := ν) (a := 0) (i := 1) (by omega)
        have i35 : (156 : Int32) + (5 : Int32) * nI p + nI j = nI (156 + 5 * p + j) := by rw [show (156 : Int32) = nI 156 from rfl, show (5 : Int32) = nI 5 from rfl, mul_nI, add_nI, add_nI]
        have o2 : ¬ oob (nI (156 + 5 * p + j)) 205 := by rw [oob_nI (by omega)]; omega
        have c2 : (nI (156 + 5 * p + j)).toNatClampNeg = 156 + 5 * p + j := cl_nI (by omega)
        rw [er, Option.bind_some, if_pos rfl]
        simp only [r1, i35, o2, c2, if_false]
    · refine q_no (k := 1) (i := 1) (v := 0) h rfl ?_ ?_
      · unfold f_X4_pipeOf
        rw [X4_needPipe_y hn hm hm8 hp, Option.bind_some, if_pos rfl, X4_needRange_n hr]
        rfl
      · unfold f_X5_pipeOf
        rw [X5_isPipe_y hm hm8 hp, Option.bind_some, if_neg i10, X5_in_n hr (by decide) (by decide), Option.bind_some, if_pos rfl]
        show fb_X5_pipeOf_1 (nI p) a2 (fl_X5_pipeOf (nI p) a2 999999999) ν 2 = _
        exact ref_no (t := 2) (by decide) _
  · refine q_no (k := 3) (i := 0) (v := 0) h rfl ?_ ?_
    · unfold f_X4_pipeOf
      rw [X4_needPipe_n hn hm hx]
      rfl
    · unfold f_X5_pipeOf
      rw [X5_isPipe_n hm hm8 hx, Option.bind_some, if_pos rfl]
      show fb_X5_pipeOf_1 a1 a2 (fl_X5_pipeOf a1 a2 999999999) ν 1 = _
      exact ref_no (t := 1) (by decide) _
