/-! what the actions do to it -/
theorem j_up {d k : Nat} {v : Int32} {r : Row} (h : J d r) (hk : (k < 140 ∧ k % 35 ≠ 2 ∧ k % 35 ≠ 3) ∨ 198 ≤ k) : J d (upd r k v) :=
  ⟨fun z hz => js_up (h.1 z hz) (by omega) (by omega), fun t ht => jt_congr (h.2.1 t ht) (pk_un (by omega)) (pk_un (by omega)) (pk_un (by omega)) (pk_un (by omega)), fun p hp => jp_up (h.2.2 p hp) (by omega) (by omega) (by omega)⟩
theorem j_site {d m : Nat} {r : Row} (hi : Inv 9999 r) (h : J d r) (hm : r 196 = nI m) (hm4 : m < 4) : J d (upd r 196 (nI (m + 1))) := by
  refine ⟨fun z hz => js_up (h.1 z hz) (by omega) (by omega), fun t ht => ?_, fun p hp => jp_up (h.2.2 p hp) (by omega) (by omega) (by omega)⟩
  intro ht7
  rw [pk_un (by omega)] at ht7
  obtain ⟨h1, h2⟩ := h.2.1 t ht ht7
  rw [pk_un (by omega), pk_us, pk_un (by omega)]
  refine ⟨?_, h2⟩
  obtain ⟨j, hj, _, hj3⟩ := inv_at hi (bq_t0 ht)
  have hj3' : j ≤ 3 := hj3
  rw [hj, hm, lt_nI (by omega) (by omega)] at h1
  rw [hj, lt_nI (by omega) (by omega)]
  omega
theorem j_tube {d m q j l : Nat} {r : Row} (h : J d r) (hm : r 196 = nI m) (hm4 : m ≤ 4) (hj : j < m) (hq : r 197 = nI q) (hq8 : q < 8) (hl : 1 ≤ l) (hl3 : l ≤ 30) : J d (upd (upd (upd r (140 + 2 * q) (nI j)) (141 + 2 * q) (nI l)) 197 (nI (q + 1))) := by
  refine ⟨fun z hz => js_up (js_up (js_up (h.1 z hz) (by omega) (by omega)) (by omega) (by omega)) (by omega) (by omega), fun t ht => ?_, fun p hp => jp_up (jp_up (jp_up (h.2.2 p hp) (by omega) (by omega) (by omega)) (by omega) (by omega) (by omega)) (by omega) (by omega) (by omega)⟩
  intro ht7
  rw [pk_us, lt_nI (by omega) (by omega)] at ht7
  by_cases e : t = q
  · subst e
    rw [pk_un (by omega), pk_un (by omega), pk_us, pk_un (by omega), pk_un (by omega), pk_un (by omega), pk_un (by omega), pk_us, hm, lt_nI (by omega) (by omega)]
    refine ⟨hj, ?_⟩
    rw [show (1 : Int32) = nI 1 from rfl, le_nI (by omega) (by omega)]
    exact hl
  · rw [pk_un (by omega), pk_un (by omega), pk_un (by omega), pk_un (by omega), pk_un (by omega), pk_un (by omega), pk_un (by omega), pk_un (by omega), pk_un (by omega)]
    exact h.2.1 t ht (by rw [hq, lt_nI (by omega) (by omega)]; omega)
theorem j_pipe {d q : Nat} {u v w : Int32} {r : Row} (h : J d r) (hq8 : q < 8) : J d (upd (upd (upd r (156 + 5 * q) u) (157 + 5 * q) v) 198 w) :=
  ⟨fun z hz => js_up (js_up (js_up (h.1 z hz) (by omega) (by omega)) (by omega) (by omega)) (by omega) (by omega), fun t ht => jt_congr (h.2.1 t ht) (by rw [pk_un (by omega), pk_un (by omega), pk_un (by omega)]) (by rw [pk_un (by omega), pk_un (by omega), pk_un (by omega)]) (by rw [pk_un (by omega), pk_un (by omega), pk_un (by omega)]) (by rw [pk_un (by omega), pk_un (by omega), pk_un (by omega)]),
    fun p hp => jp_up (jp_up (jp_up (h.2.2 p hp) (by omega) (by omega) (by omega)) (by omega) (by omega) (by omega)) (by omega) (by omega) (by omega)⟩
theorem j_wi {d : Nat} {r : Row} (h : J d r) : J d (S_wi r) := by
  have hs := sc_le r
  unfold S_wi
  exact j_up (j_up (itr_rng (fun s => J d s) (sc r) 0 r (fun j s _ h2 h3 => by unfold zst; exact j_up h3 (Or.inl ⟨by omega, by omega, by omega⟩)) h) (Or.inr (by omega))) (Or.inr (by omega))
theorem gd_same {d d' : Nat} {r r' : Row} (h : gd 9999 d r) (h' : gd 9999 d' r') (e : r' 199 = r 199) : d' = d := by
  have h1 := h.2.2.1
  have h2 := h'.2.2.1
  have h3 := h'.2.1
  rw [e, h.2.1, eq_nI (by omega) (by omega)] at h3
  exact h3.symm
theorem X5_addTube_at {r : Row} {q j l : Nat} (hq : r 197 = nI q) (hq8 : q < 8) (hj : j < 100) (hl : l < 100) : f_X5_addTube r (nI j) (nI l) = some (nI q, upd (upd (upd r (140 + 2 * q) (nI j)) (141 + 2 * q) (nI l)) 197 (nI (q + 1))) := by
  unfold f_X5_addTube
  have q1 : ¬ 205 ≤ 140 + 2 * q := by omega
  have q2 : ¬ 205 ≤ 141 + 2 * q := by omega
  have e2 : 140 + 2 * q + 1 = 141 + 2 * q := by omega
  simp (maxSteps := 2000000) (disch := omega) only [↓Lm1, L0, L1, L2, L3, L4, L5, L6, L7, L8, L9, L10, L11, L12, L14, L15, L16, L20, L21, L29, L30, L31, L32, L35, L45, L48, L50, L60, L68, L97, L99, L100, L101, L102, L112, L115, L116, L119, L120, L128, L140, L156, L196, L197, L198, L199, L200, L201, L202, L203, L204, L205, L255, L400, L410, L1000, L2665, L2870, L9999, L10000, L100000, L1000000, le_nI, lt_nI, eq_nI, oob_nI, cl_nI, sub_nI, add_nI, mul_nI, b2i_t2, b2i_f2, n10, n01, em1, em2, lm1, lm2, lm3, lm4, if_true, if_false, Option.bind_some, Nat.add_zero, Bool.false_eq_true, not_true, not_false_eq_true, upd_off, upd_at, hq, q1, q2, e2]
theorem X5_addPipe_at {r : Row} {q j c : Nat} (hq : r 198 = nI q) (hq8 : q < 8) (hj : j < 100) (hc : c < 100) : f_X5_addPipe r (nI j) (nI c) = some (nI q, upd (upd (upd r (156 + 5 * q) (nI j)) (157 + 5 * q) (nI c)) 198 (nI (q + 1))) := by
  unfold f_X5_addPipe
  have q1 : ¬ 205 ≤ 156 + 5 * q := by omega
  have q2 : ¬ 205 ≤ 157 + 5 * q := by omega
  have e2 : 156 + 5 * q + 1 = 157 + 5 * q := by omega
  have e3 : 1 ≤ q + 1 := by omega
  simp (maxSteps := 2000000) (disch := omega) only [↓Lm1, L0, L1, L2, L3, L4, L5, L6, L7, L8, L9, L10, L11, L12, L14, L15, L16, L20, L21, L29, L30, L31, L32, L35, L45, L48, L50, L60, L68, L97, L99, L100, L101, L102, L112, L115, L116, L119, L120, L128, L140, L156, L196, L197, L198, L199, L200, L201, L202, L203, L204, L205, L255, L400, L410, L1000, L2665, L2870, L9999, L10000, L100000, L1000000, le_nI, lt_nI, eq_nI, oob_nI, cl_nI, sub_nI, add_nI, mul_nI, b2i_t2, b2i_f2, n10, n01, em1, em2, lm1, lm2, lm3, lm4, if_true, if_false, Option.bind_some, Nat.add_zero, Bool.false_eq_true, not_true, not_false_eq_true, upd_off, upd_at, hq, q1, q2, e2, e3, Nat.add_sub_cancel]
/-- a ground as it should be, in the class's form -/
def GG (g : Row) : Prop := ∃ r d, g = enc r ∧ gd 9999 d r ∧ J d r
theorem isSite_y {r : Row} {x : Int32} {m : Nat} (h : r 196 = nI m) (hm : m ≤ 4) (hx : f_X5_isSite r x = some 1) : ∃ j, j < m ∧ x = nI j := by
  rcases in_cases x m (by omega) with ⟨j, hj, e⟩ | hn
  · exact ⟨j, hj, e⟩
  · rw [X5_isSite_n h hm hn] at hx
    exact absurd (Option.some.inj hx) (by decide)
theorem isCell_y {x : Int32} (hx : f_X5_isCell x = some 1) : ∃ c, c < 30 ∧ x = nI c := by
  rcases in_cases x 30 (by omega) with ⟨j, hj, e⟩ | hn
  · exact ⟨j, hj, e⟩
  · rw [X5_isCell_n hn] at hx
    exact absurd (Option.some.inj hx) (by decide)
theorem gg_done {d : Nat} {r g' : Row} {code a b c v : Int32} {Y : Option (Int32 × Row)} {v1 : Int32} {r1 : Row} (hd : done r code a b c Y) (hY : Y = some (v1, r1)) (hp : f_X0_perform (enc r) code a b c = some (v, g')) (hg : gd 9999 d r) (hj : J d r1) (h9 : r1 199 = r 199) : GG g' := by
  obtain ⟨v2, r2, _, k2, k3, _, d', k5⟩ := hd
  rw [hY] at k3
  have e := Option.some.inj k3
  injection e with e1 e2
  subst e2
  rw [hp] at k2
  have e := Option.some.inj k2
  injection e with e3 e4
  rw [e4]
  have := gd_same hg k5 h9
  subst this
  exact ⟨r1, d', rfl, k5, hj⟩
theorem gg_left {d F : Nat} {r g' : Row} {code a b c v : Int32} (hl : left r code a b c F) (hp : f_X0_perform (enc r) code a b c = some (v, g')) (hg : gd 9999 d r) (hj : J d r) : GG g' := by
  rw [hl.2] at hp
  have e := Option.some.inj hp
  injection e with e1 e2
  rw [← e2]
  exact ⟨r, d, rfl, hg, hj⟩
theorem days_ok {d w' n' : Nat} {t : Int32} {r : Row} (h : gd 9999 d r) (h1 : (-30 : Int32) ≤ t ∧ t ≤ 30) (hw' : w' ≤ 30) (hn1 : 1 ≤ n') (hn' : n' ≤ 60) (hc : d + n' ≤ 9999) : done r 100 t (nI w') (nI n') (f_X5_goDays r t (nI w') (nI n')) ∧ f_X5_goDays r t (nI w') (nI n') = some (nI (ac (S_go r t (nI w') n')), S_go r t (nI w') n') ∧ gd 9999 (d + n') (S_go r t (nI w') n') := by
  have hY := X5_goDays h hc (dg_of h1) hw' (by omega : n' ≤ 1000)
  refine ⟨?_, hY, gd_go (dg_of h1) hw' n' 0 d r h hc⟩
  rcases days_cases t (nI w') (nI n') h with ⟨_, h2⟩ | ⟨_, _, h2⟩ | ⟨h2, _⟩
  · refine absurd ⟨h1, ⟨nI_pos' (by omega), ?_⟩, ?_, ?_⟩ h2
    · rw [show (30 : Int32) = nI 30 from rfl, le_nI (by omega) (by omega)]; exact hw'
    · rw [show (1 : Int32) = nI 1 from rfl, le_nI (by omega) (by omega)]; exact hn1
    · rw [show (60 : Int32) = nI 60 from rfl, le_nI (by omega) (by omega)]; exact hn'
  · unfold f_X5_hasDays at h2
    have hc' : ¬ (9999 : Int32) < nI (d + n') := fun x => by
      rw [show (9999 : Int32) = nI 9999 from rfl, lt_nI (by omega) (by omega)] at x
      omega
    rw [show (199 : Int32).toNatClampNeg = 199 from rfl, h.2.1, add_nI, if_neg hc'] at h2
    exact absurd (Option.some.inj h2) (by decide)
  · exact h2
theorem days_hd {d n' : Nat} {t w : Int32} {r : Row} (h : gd 9999 d r) (hn' : n' ≤ 60) (h2 : f_X5_hasDays r (nI n') = some 1) : d + n' ≤ 9999 := by
  have hd := h.2.2.1
  unfold f_X5_hasDays at h2
  by_cases hc : d + n' ≤ 9999
  · exact hc
  · have hc' : (9999 : Int32) < nI (d + n') := by
      rw [show (9999 : Int32) = nI 9999 from rfl, lt_nI (by omega) (by omega)]
      omega
    rw [show (199 : Int32).toNatClampNeg = 199 from rfl, h.2.1, add_nI, if_pos hc'] at h2
    exact absurd (Option.some.inj h2) (by decide)
theorem gg_days {d : Nat} {r g' : Row} {t w n v : Int32} (hg : gd 9999 d r) (hj : J d r) (hp : f_X0_perform (enc r) 100 t w n = some (v, g')) : GG g' := by
  rcases days_cases t w n hg with ⟨hl, _⟩ | ⟨hl, _, _⟩ | ⟨hd, ⟨h1, h2, h3⟩, h4⟩
  · exact gg_left hl hp hg hj
  · exact gg_left hl hp hg hj
  · obtain ⟨w', hw', rfl⟩ := rng_nI (n := 30) (by omega) h2
    obtain ⟨n', hn', rfl⟩ := rng_nI (n := 60) (by omega) ⟨Int32.le_trans (by decide) h3.1, h3.2⟩
    have hc := days_hd (t := t) (w := nI w') hg hn' h4
    have hY := X5_goDays hg hc (dg_of h1) hw' (by omega : n' ≤ 1000)
    obtain ⟨v2, r2, _, k2, k3, _, _⟩ := hd
    rw [hY] at k3
    have e := Option.some.inj k3
    injection e with e1 e2
    subst e2
    rw [hp] at k2
    have e := Option.some.inj k2
    injection e with e3 e4
    exact ⟨_, d + n', e4, gd_go (dg_of h1) hw' n' 0 d r hg hc, j_go (by omega) (dg_of h1) hw' n' 0 d r hg hc hj⟩
theorem pf_115 (g : Row) (a b c : Int32) : f_X0_perform g 115 a b c = f_X0_perform g 115 0 0 0 := by
  unfold f_X0_perform f_X0_faultOf
  simp only [show ((115 : Int32) = 100) = False from eq_false (by decide), show ((115 : Int32) = 101) = False from eq_false (by decide), show ((115 : Int32) = 102) = False from eq_false (by decide), show ((115 : Int32) = 112) = False from eq_false (by decide), show ((115 : Int32) = 116) = False from eq_false (by decide), show ((115 : Int32) = 119) = False from eq_false (by decide), show ((115 : Int32) = 120) = False from eq_false (by decide), if_false, if_true]
theorem pf_116 (g : Row) (a b c : Int32) : f_X0_perform g 116 a b c = f_X0_perform g 116 a b 0 := by
  unfold f_X0_perform f_X0_faultOf
  simp only [show ((116 : Int32) = 100) = False from eq_false (by decide), show ((116 : Int32) = 101) = False from eq_false (by decide), show ((116 : Int32) = 102) = False from eq_false (by decide), show ((116 : Int32) = 112) = False from eq_false (by decide), show ((116 : Int32) = 115) = False from eq_false (by decide), show ((116 : Int32) = 119) = False from eq_false (by decide), show ((116 : Int32) = 120) = False from eq_false (by decide), if_false, if_true]
theorem pf_112 (g : Row) (a b c : Int32) : f_X0_perform g 112 a b c = f_X0_perform g 112 a b 0 := by
  unfold f_X0_perform f_X0_faultOf
  simp only [show ((112 : Int32) = 100) = False from eq_false (by decide), show ((112 : Int32) = 101) = False from eq_false (by decide), show ((112 : Int32) = 102) = False from eq_false (by decide), show ((112 : Int32) = 115) = False from eq_false (by decide), show ((112 : Int32) = 116) = False from eq_false (by decide), show ((112 : Int32) = 119) = False from eq_false (by decide), show ((112 : Int32) = 120) = False from eq_false (by decide), if_false, if_true]
theorem pf_102 (g : Row) (a b c : Int32) : f_X0_perform g 102 a b c = f_X0_perform g 102 a b 0 := by
  unfold f_X0_perform f_X0_faultOf
  simp only [show ((102 : Int32) = 100) = False from eq_false (by decide), show ((102 : Int32) = 101) = False from eq_false (by decide), show ((102 : Int32) = 112) = False from eq_false (by decide), show ((102 : Int32) = 115) = False from eq_false (by decide), show ((102 : Int32) = 116) = False from eq_false (by decide), show ((102 : Int32) = 119) = False from eq_false (by decide), show ((102 : Int32) = 120) = False from eq_false (by decide), if_false, if_true]
theorem pf_120 (g : Row) (a b c : Int32) : f_X0_perform g 120 a b c = f_X0_perform g 120 a 0 0 := by
  unfold f_X0_perform f_X0_faultOf
  simp only [show ((120 : Int32) = 100) = False from eq_false (by decide), show ((120 : Int32) = 101) = False from eq_false (by decide), show ((120 : Int32) = 102) = False from eq_false (by decide), show ((120 : Int32) = 112) = False from eq_false (by decide), show ((120 : Int32) = 115) = False from eq_false (by decide), show ((120 : Int32) = 116) = False from eq_false (by decide), show ((120 : Int32) = 119) = False from eq_false (by decide), if_false, if_true]
theorem pf_101 (g : Row) (a b c : Int32) : f_X0_perform g 101 a b c = f_X0_perform g 101 a b 0 := by
  unfold f_X0_perform f_X0_faultOf
  simp only [show ((101 : Int32) = 100) = False from eq_false (by decide), show ((101 : Int32) = 102) = False from eq_false (by decide), show ((101 : Int32) = 112) = False from eq_false (by decide), show ((101 : Int32) = 115) = False from eq_false (by decide), show ((101 : Int32) = 116) = False from eq_false (by decide), show ((101 : Int32) = 119) = False from eq_false (by decide), show ((101 : Int32) = 120) = False from eq_false (by decide), if_false, if_true]
theorem pf_119 (g : Row) (a b c : Int32) : f_X0_perform g 119 a b c = f_X0_perform g 119 0 0 0 := by
  unfold f_X0_perform f_X0_faultOf
  simp only [show ((119 : Int32) = 100) = False from eq_false (by decide), show ((119 : Int32) = 101) = False from eq_false (by decide), show ((119 : Int32) = 102) = False from eq_false (by decide), show ((119 : Int32) = 112) = False from eq_false (by decide), show ((119 : Int32) = 115) = False from eq_false (by decide), show ((119 : Int32) = 116) = False from eq_false (by decide), show ((119 : Int32) = 120) = False from eq_false (by decide), if_false, if_true]
theorem pf_no {g : Row} {k a b c : Int32} (h1 : ¬ k = 100) (h2 : ¬ k = 101) (h3 : ¬ k = 102) (h4 : ¬ k = 112) (h5 : ¬ k = 115) (h6 : ¬ k = 116) (h7 : ¬ k = 119) (h8 : ¬ k = 120) : f_X0_perform g k a b c = some (-1, g) := by
  unfold f_X0_perform f_X0_faultOf
  rw [if_neg h1, if_neg h2, if_neg h3, if_neg h4, if_neg h5, if_neg h6, if_neg h7, if_neg h8, Option.bind_some, if_neg (by decide)]
/-- whatever is done to a ground, it stays as it should be -/
theorem gg_perf {g g' : Row} {k a b c v : Int32} (h : GG g) (hp : f_X0_perform g k a b c = some (v, g')) : GG g' := by
  obtain ⟨r, d, rfl, hg, hj⟩ := h
  obtain ⟨m, hm, hm4⟩ := inv_196 hg.1
  by_cases h1 : k = 100
  · subst h1
    exact gg_days hg hj hp
  by_cases h2 : k = 101
  · subst h2
    rw [pf_101] at hp
    rcases set_cases a b hg with ⟨hl, _⟩ | ⟨hd, hs⟩
    · exact gg_left hl hp hg hj
    · have ha : ∃ i, i < 3 ∧ a = nI i := by
        rcases hs with ⟨e, _⟩ | ⟨e, _⟩ | ⟨e, _⟩
        · exact ⟨0, by omega, e⟩
        · exact ⟨1, by omega, e⟩
        · exact ⟨2, by omega, e⟩
      obtain ⟨i, hi, rfl⟩ := ha
      exact gg_done hd (X5_put_at (k := 202 + i) (by rw [show (202 : Int32) = nI 202 from rfl, add_nI]) (by omega)) hp hg (j_up hj (Or.inr (by omega))) (pk_un (by omega))
  by_cases h3 : k = 102
  · subst h3
    rw [pf_102] at hp
    rcases fence_cases a b hg with ⟨hl, _⟩ | ⟨hl, _⟩ | ⟨hd, hs, _⟩
    · exact gg_left hl hp hg hj
    · exact gg_left hl hp hg hj
    · obtain ⟨j, hj4, rfl⟩ := isSite_y hm hm4 hs
      exact gg_done hd (X5_put_at (k := 35 * j + 1) (by rw [show (35 : Int32) = nI 35 from rfl, show (1 : Int32) = nI 1 from rfl, mul_nI, add_nI]) (by omega)) hp hg (j_up hj (Or.inl ⟨by omega, by omega, by omega⟩)) (pk_un (by omega))
  by_cases h4 : k = 112
  · subst h4
    rw [pf_112] at hp
    rcases pipe_cases a b hg with ⟨hl, _⟩ | ⟨hl, _⟩ | ⟨hl, _⟩ | ⟨hd, hs, hc, hn⟩
    · exact gg_left hl hp hg hj
    · exact gg_left hl hp hg hj
    · exact gg_left hl hp hg hj
    · obtain ⟨j, hj4, rfl⟩ := isSite_y hm hm4 hs
      obtain ⟨c, hc30, rfl⟩ := isCell_y hc
      obtain ⟨q, hq, hq8⟩ := inv_198 hg.1
      have hq8' : q < 8 := by
        by_cases e : q = 8
        · subst e
          unfold f_X5_canLay at hn
          rw [X5_frozen (by omega) hc30, Option.bind_some] at hn
          cases hf : fR r j c with
          | true =>
            rw [hf, b2i_t, if_neg i10] at hn
            exact absurd (Option.some.inj hn) (by decide)
          | false =>
            rw [hf, b2i_f, if_pos rfl, show (198 : Int32).toNatClampNeg = 198 from rfl, hq, if_pos (by decide)] at hn
            exact absurd (Option.some.inj hn) (by decide)
        · omega
      exact gg_done hd (X5_addPipe_at hq hq8' (by omega) (by omega)) hp hg (j_pipe hj hq8') (by rw [pk_un (by omega), pk_un (by omega), pk_un (by omega)])
  by_cases h5 : k = 115
  · subst h5
    rw [pf_115] at hp
    rcases site_cases hg with ⟨hl, _⟩ | ⟨hd, m', hm', e⟩
    · exact gg_left hl hp hg hj
    · refine gg_done hd (v1 := upd r 196 (r 196 + 1) 196 - 1) (r1 := upd r 196 (r 196 + 1)) rfl hp hg ?_ (pk_un (by omega))
      rw [e, show nI m' + 1 = nI (m' + 1) from add_nI m' 1]
      exact j_site hg.1 hj e hm'
  by_cases h6 : k = 116
  · subst h6
    rw [pf_116] at hp
    rcases tube_cases a b hg with ⟨hl, _⟩ | ⟨hl, _⟩ | ⟨hl, _⟩ | ⟨hd, hs, hb, q, hq8, hq⟩
    · exact gg_left hl hp hg hj
    · exact gg_left hl hp hg hj
    · exact gg_left hl hp hg hj
    · obtain ⟨j, hj4, rfl⟩ := isSite_y hm hm4 hs
      obtain ⟨l, hl30, rfl⟩ := rng_nI (n := 30) (by omega) ⟨Int32.le_trans (by decide) hb.1, hb.2⟩
      have hl1 := hb.1
      rw [show (1 : Int32) = nI 1 from rfl, le_nI (by omega) (by omega)] at hl1
      exact gg_done hd (X5_addTube_at hq hq8 (by omega) (by omega)) hp hg (j_tube hj hm hm4 hj4 hq hq8 hl1 hl30) (by rw [pk_un (by omega), pk_un (by omega), pk_un (by omega)])
  by_cases h7 : k = 119
  · subst h7
    rw [pf_119] at hp
    exact gg_done (winter_done hg) (X5_beginWinter hg.1) hp hg (j_wi hj) (by
      have hs := sc_le r
      unfold S_wi
      rw [pk_un (by omega), pk_un (by omega), zst_hi (by omega) hs])
  by_cases h8 : k = 120
  · subst h8
    rw [pf_120] at hp
    rcases shovel_cases a hg with ⟨hl, _⟩ | ⟨hd, hs⟩
    · exact gg_left hl hp hg hj
    · obtain ⟨j, hj4, rfl⟩ := isSite_y hm hm4 hs
      exact gg_done hd (X5_put_at (k := 35 * j) (by rw [show (35 : Int32) = nI 35 from rfl, show (0 : Int32) = nI 0 from rfl, mul_nI, add_nI, Nat.add_zero]) (by omega)) hp hg (j_up hj (Or.inl ⟨by omega, by omega, by omega⟩)) (pk_un (by omega))
  rw [pf_no h1 h2 h3 h4 h5 h6 h7 h8] at hp
  have e := Option.some.inj hp
  injection e with e1 e2
  rw [← e2]
  exact ⟨r, d, rfl, hg, hj⟩
theorem frow_0 {k : Nat} (h : k < 202) : frow k = 0 := by
  unfold frow
  rw [if_neg (by omega), if_neg (by omega), if_neg (by omega)]
theorem gg_frow : GG (enc frow) := ⟨frow, 0, rfl, frow_gd, fun z hz => ⟨0, 0, by rw [frow_0 (by omega)]; rfl, by rw [frow_0 (by omega)]; rfl, by omega, by omega, Or.inl rfl⟩, fun t ht h => by
  rw [frow_0 (by omega)] at h
  exact absurd h (nI_pos (by omega)), fun p hp => ⟨0, 0, 0, by rw [frow_0 (by omega)]; rfl, by rw [frow_0 (by omega)]; rfl, by rw [frow_0 (by omega)]; rfl, by omega, by omega, by omega, Or.inr rfl⟩⟩
