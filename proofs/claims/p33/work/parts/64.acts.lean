/-! small -/
theorem obs {α : Type} (x : Option α) : (x.bind fun r => some r) = x := by cases x <;> rfl
/-! the actions on a row: both sides, case by case -/
theorem gd_196 {D d m q : Nat} {r : Row} (h : gd D d r) (hr : r 196 = nI q) (hq : q ≤ m) (hm : m ≤ 4) : gd D d (upd r 196 (nI m)) :=
  ⟨inv_up h.1 (by omega) (by omega) (fun b e => by
      have e' : some (0, 4) = some b := e
      cases e'
      exact ⟨m, rfl, Nat.zero_le _, hm⟩) (fun e => by cases e) (fun p h1 h2 => by
      have hp := h.1.2.2.2
      rw [pk_un (by omega)] at h2
      rw [pk_un (by omega), pk_us]
      have := hp p h1 h2
      rw [hr] at this
      exact Int32.lt_of_lt_of_le this ((le_nI (by omega) (by omega)).mpr hq)), by rw [pk_un (by omega)]; exact h.2.1, h.2.2⟩
theorem gd_197 {D d m : Nat} {r : Row} (h : gd D d r) (hm : m ≤ 8) : gd D d (upd r 197 (nI m)) :=
  ⟨inv_in h.1 (by omega) (by omega) (b := (0, 8)) rfl rfl (Nat.zero_le _) hm, by rw [pk_un (by omega)]; exact h.2.1, h.2.2⟩
theorem gd_198 {D d q : Nat} {r : Row} (h : gd D d r) (hr : r 198 = nI q) (hq : q < 8) (hs : r (156 + 5 * q) < r 196) : gd D d (upd r 198 (nI (q + 1))) :=
  ⟨inv_up h.1 (by omega) (by omega) (fun b e => by
      have e' : some (0, 8) = some b := e
      cases e'
      exact ⟨q + 1, rfl, Nat.zero_le _, hq⟩) (fun e => by cases e) (fun p h1 h2 => by
      have hp := h.1.2.2.2
      rw [pk_us, lt_nI (by omega) (by omega)] at h2
      rw [pk_un (by omega), pk_un (by omega)]
      by_cases e : p = q
      · rw [e]; exact hs
      · exact hp p h1 (by rw [hr, lt_nI (by omega) (by omega)]; omega)), by rw [pk_un (by omega)]; exact h.2.1, h.2.2⟩
theorem gd_p0 {D d q n : Nat} {r : Row} (h : gd D d r) (hr : r 198 = nI q) (hq : q < 8) (hn : n ≤ 3) : gd D d (upd r (156 + 5 * q) (nI n)) :=
  ⟨inv_up h.1 (by omega) (by omega) (fun b e => by
      rw [bq_p0 hq] at e
      cases e
      exact ⟨n, rfl, Nat.zero_le _, hn⟩) (fun e => by rw [isC_hi (by omega)] at e; cases e) (fun p h1 h2 => by
      have hp := h.1.2.2.2
      rw [pk_un (by omega), hr, lt_nI (by omega) (by omega)] at h2
      rw [pk_un (by omega), pk_un (by omega)]
      exact hp p h1 (by rw [hr, lt_nI (by omega) (by omega)]; exact h2)), by rw [pk_un (by omega)]; exact h.2.1, h.2.2⟩
theorem gd_hi {D d k n : Nat} {b : Nat × Nat} {r : Row} (h : gd D d r) (hk : 140 ≤ k) (h2 : k < 205) (h9 : k ≠ 199) (hb : bq D k = some b) (h3 : b.1 ≤ n) (h4 : n ≤ b.2) (hk2 : k < 156 ∨ 199 ≤ k ∨ k = 197 ∨ (k < 196 ∧ (k - 156) % 5 ≠ 0) := by omega) : gd D d (upd r k (nI n)) :=
  ⟨inv_in h.1 h2 h9 hb (isC_hi hk) h3 h4 hk2, by rw [pk_un (Ne.symm h9)]; exact h.2.1, h.2.2⟩
theorem gd_free {D d k : Nat} {v : Int32} {r : Row} (h : gd D d r) (hk : k < 205) (h9 : k ≠ 199) (hb : bq D k = none) (hc : isC k = false) (hk2 : k < 156 ∨ 199 ≤ k ∨ k = 197 ∨ (k < 196 ∧ (k - 156) % 5 ≠ 0) := by omega) : gd D d (upd r k v) :=
  ⟨inv_free h.1 hk h9 hb hc hk2, by rw [pk_un (Ne.symm h9)]; exact h.2.1, h.2.2⟩
theorem gd_s0 {D d z n : Nat} {r : Row} (h : gd D d r) (hz : z < 4) (hn : n ≤ 99) : gd D d (upd r (35 * z) (nI n)) :=
  ⟨inv_s0 h.1 hz hn, by rw [pk_un (by omega)]; exact h.2.1, h.2.2⟩
theorem gd_s1 {D d z n : Nat} {r : Row} (h : gd D d r) (hz : z < 4) (hn : n ≤ 20) : gd D d (upd r (35 * z + 1) (nI n)) :=
  ⟨inv_s1 h.1 hz hn, by rw [pk_un (by omega)]; exact h.2.1, h.2.2⟩
theorem gd_sf {D d z j : Nat} {v : Int32} {r : Row} (h : gd D d r) (hz : z < 4) (h2 : 2 ≤ j) (hj : j < 5) : gd D d (upd r (35 * z + j) v) :=
  ⟨inv_sf h.1 hz h2 hj, by rw [pk_un (by omega)]; exact h.2.1, h.2.2⟩
/-- an action was done: the class's answer and row, the reference's -/
def done (r : Row) (code a b c : Int32) (Y : Option (Int32 × Row)) : Prop := ∃ v r', f_X0_faultOf (enc r) code a b c = some 0 ∧ f_X0_perform (enc r) code a b c = some (v, enc r') ∧ Y = some (v, r') ∧ 0 ≤ v ∧ ∃ d, gd 9999 d r'
def left (r : Row) (code a b c : Int32) (F : Nat) : Prop := f_X0_faultOf (enc r) code a b c = some (nI F) ∧ f_X0_perform (enc r) code a b c = some (-1, enc r)
theorem left_mk {r : Row} {code a b c : Int32} {F : Nat} (h0 : 0 < F) (hF : F < 100) (h : f_X0_faultOf (enc r) code a b c = some (nI F)) : left r code a b c F := by
  refine ⟨h, ?_⟩
  unfold f_X0_perform
  rw [h, Option.bind_some, if_neg (nI_ne0 h0 (by omega))]
theorem site_cases {d : Nat} {r : Row} (h : gd 9999 d r) : (left r 115 0 0 0 3 ∧ r 196 = nI 4) ∨ (done r 115 0 0 0 (f_X5_addSite r) ∧ ∃ m, m < 4 ∧ r 196 = nI m) := by
  obtain ⟨m, hm, hm4⟩ := inv_196 h.1
  by_cases e : m = 4
  · subst e
    refine Or.inl ⟨left_mk (by omega) (by omega) ?_, hm⟩
    unfold f_X0_faultOf
    rw [if_neg (by decide), if_neg (by decide), if_neg (by decide), if_neg (by decide), if_pos rfl, enc_hi (by omega), hm, if_pos (by decide)]
    rfl
  · refine Or.inr ⟨⟨nI m, upd r 196 (nI (m + 1)), ?_, ?_, ?_, nI_pos' (by omega), d, gd_196 h hm (by omega) (by omega)⟩, m, by omega, hm⟩
    · unfold f_X0_faultOf
      rw [if_neg (by decide), if_neg (by decide), if_neg (by decide), if_neg (by decide), if_pos rfl, enc_hi (by omega), hm, if_neg (fun x => by rw [show (4 : Int32) = nI 4 from rfl, le_nI (by omega) (by omega)] at x; omega)]
    · unfold f_X0_perform f_X0_faultOf
      have e1 : nI m + 1 = nI (m + 1) := add_nI m 1
      rw [if_neg (by decide), if_neg (by decide), if_neg (by decide), if_neg (by decide), if_pos rfl, enc_hi (by omega), hm, if_neg (fun x => by rw [show (4 : Int32) = nI 4 from rfl, le_nI (by omega) (by omega)] at x; omega), Option.bind_some, if_pos rfl, if_neg (by decide), if_neg (by decide), if_neg (by decide), if_neg (by decide), if_pos rfl, enc_uph (by omega), e1]
    · unfold f_X5_addSite
      have e1 : nI m + 1 = nI (m + 1) := add_nI m 1
      rw [show (196 : Int32).toNatClampNeg = 196 from rfl, hm, e1, pk_us, nI_m1]
theorem tube_cases {d : Nat} {r : Row} (a1 a2 : Int32) (h : gd 9999 d r) :
    (left r 116 a1 a2 0 1 ∧ f_X5_isSite r a1 = some 0) ∨ (left r 116 a1 a2 0 2 ∧ f_X5_isSite r a1 = some 1 ∧ ¬ (1 ≤ a2 ∧ a2 ≤ 30)) ∨ (left r 116 a1 a2 0 3 ∧ f_X5_isSite r a1 = some 1 ∧ (1 ≤ a2 ∧ a2 ≤ 30) ∧ r 197 = nI 8) ∨ (done r 116 a1 a2 0 (f_X5_addTube r a1 a2) ∧ f_X5_isSite r a1 = some 1 ∧ (1 ≤ a2 ∧ a2 ≤ 30) ∧ ∃ m, m < 8 ∧ r 197 = nI m) := by
  obtain ⟨m, hm, hm4⟩ := inv_196 h.1
  have fo : f_X0_faultOf (enc r) 116 a1 a2 0 = f_X0_faultOfTube (enc r) a1 a2 := by
    unfold f_X0_faultOf
    rw [if_neg (by decide), if_neg (by decide), if_neg (by decide), if_neg (by decide), if_neg (by decide), if_pos rfl, obs]
  rcases in_cases a1 m (by omega) with ⟨j, hj, rfl⟩ | hx
  · have hs := X5_isSite_y hm hm4 hj
    have hc := X0_hasSite_y hm hm4 hj
    by_cases hr : (1 : Int32) ≤ a2 ∧ a2 ≤ 30
    · obtain ⟨q, hq, hq8⟩ := inv_197 h.1
      obtain ⟨l, hl, rfl⟩ := rng_nI (n := 30) (by omega) ⟨Int32.le_trans (by decide) hr.1, hr.2⟩
      by_cases e : q = 8
      · subst e
        refine Or.inr (Or.inr (Or.inl ⟨left_mk (by omega) (by omega) ?_, hs, hr, hq⟩))
        rw [fo]
        unfold f_X0_faultOfTube
        rw [hc, Option.bind_some, if_neg i10, if_neg (Int32.not_lt.mpr hr.1), if_pos hr.2, enc_hi (by omega), hq, if_pos (by decide)]
        rfl
      · have hf : f_X0_faultOfTube (enc r) (nI j) (nI l) = some 0 := by
          unfold f_X0_faultOfTube
          rw [hc, Option.bind_some, if_neg i10, if_neg (Int32.not_lt.mpr hr.1), if_pos hr.2, enc_hi (by omega), hq, if_neg (fun x => by rw [show (8 : Int32) = nI 8 from rfl, le_nI (by omega) (by omega)] at x; omega)]
        refine Or.inr (Or.inr (Or.inr ⟨⟨nI q, upd (upd (upd r (140 + 2 * q) (nI j)) (141 + 2 * q) (nI l)) 197 (nI (q + 1)), ?_, ?_, ?_, nI_pos' (by omega), d, ?_⟩, hs, hr, q, by omega, hq⟩))
        · rw [fo, hf]
        · unfold f_X0_perform
          rw [fo, hf, Option.bind_some, if_pos rfl, if_neg (by decide), if_neg (by decide), if_neg (by decide), if_neg (by decide), if_neg (by decide), if_pos rfl]
          unfold f_X0_addTube
          have q8 : ¬ 8 ≤ q := by omega
          simp (maxSteps := 2000000) (disch := omega) only [↓Lm1, L0, L1, L2, L3, L4, L5, L6, L7, L8, L9, L10, L11, L12, L14, L15, L16, L20, L21, L29, L30, L31, L32, L35, L45, L48, L50, L60, L68, L97, L99, L100, L101, L102, L112, L115, L116, L119, L120, L128, L140, L156, L196, L197, L198, L199, L200, L201, L202, L203, L204, L205, L255, L400, L410, L1000, L2665, L2870, L9999, L10000, L100000, L1000000, le_nI, lt_nI, eq_nI, oob_nI, cl_nI, sub_nI, add_nI, mul_nI, b2i_t2, b2i_f2, n10, n01, em1, em2, lm1, lm2, lm3, lm4, if_true, if_false, Option.bind_some, Nat.add_zero, Bool.false_eq_true, not_true, not_false_eq_true, enc_hi, enc_uph, upd_off, upd_at, hq, q8]
        · unfold f_X5_addTube
          have q1 : ¬ 205 ≤ 140 + 2 * q := by omega
          have q2 : ¬ 205 ≤ 141 + 2 * q := by omega
          have e2 : 140 + 2 * q + 1 = 141 + 2 * q := by omega
          simp (maxSteps := 2000000) (disch := omega) only [↓Lm1, L0, L1, L2, L3, L4, L5, L6, L7, L8, L9, L10, L11, L12, L14, L15, L16, L20, L21, L29, L30, L31, L32, L35, L45, L48, L50, L60, L68, L97, L99, L100, L101, L102, L112, L115, L116, L119, L120, L128, L140, L156, L196, L197, L198, L199, L200, L201, L202, L203, L204, L205, L255, L400, L410, L1000, L2665, L2870, L9999, L10000, L100000, L1000000, le_nI, lt_nI, eq_nI, oob_nI, cl_nI, sub_nI, add_nI, mul_nI, b2i_t2, b2i_f2, n10, n01, em1, em2, lm1, lm2, lm3, lm4, if_true, if_false, Option.bind_some, Nat.add_zero, Bool.false_eq_true, not_true, not_false_eq_true, upd_off, upd_at, hq, q1, q2, e2]
        · exact gd_197 (gd_hi (gd_hi h (by omega) (by omega) (by omega) (bq_t0 (by omega)) (Nat.zero_le _) (by show j ≤ 3; omega)) (by omega) (by omega) (by omega) (bq_t1 (by omega)) (Nat.zero_le _) hl) (by omega)
    · refine Or.inr (Or.inl ⟨left_mk (by omega) (by omega) ?_, hs, hr⟩)
      rw [fo]
      unfold f_X0_faultOfTube
      rw [hc, Option.bind_some, if_neg i10]
      by_cases h1 : a2 < 1
      · rw [if_pos h1]; rfl
      · rw [if_neg h1, if_neg (fun h2 => hr ⟨Int32.not_lt.mp h1, h2⟩)]; rfl
  · refine Or.inl ⟨left_mk (by omega) (by omega) ?_, X5_isSite_n hm hm4 hx⟩
    rw [fo]
    unfold f_X0_faultOfTube
    rw [X0_hasSite_n hm hx]
    rfl
theorem pipe_cases {d : Nat} {r : Row} (a1 a2 : Int32) (h : gd 9999 d r) :
    (left r 112 a1 a2 0 1 ∧ f_X5_isSite r a1 = some 0) ∨ (left r 112 a1 a2 0 1 ∧ f_X5_isSite r a1 = some 1 ∧ f_X5_isCell a2 = some 0 ∧ (a2 < 0 ∨ nI 30 ≤ a2)) ∨ (left r 112 a1 a2 0 3 ∧ f_X5_isSite r a1 = some 1 ∧ f_X5_isCell a2 = some 1 ∧ f_X5_canLay r a1 a2 = some 0) ∨ (done r 112 a1 a2 0 (f_X5_addPipe r a1 a2) ∧ f_X5_isSite r a1 = some 1 ∧ f_X5_isCell a2 = some 1 ∧ f_X5_canLay r a1 a2 = some 1) := by
  obtain ⟨m, hm, hm4⟩ := inv_196 h.1
  have fo : f_X0_faultOf (enc r) 112 a1 a2 0 = f_X0_faultOfPipe (enc r) a1 a2 := by
    unfold f_X0_faultOf
    rw [if_neg (by decide), if_neg (by decide), if_neg (by decide), if_pos rfl, obs]
  rcases in_cases a1 m (by omega) with ⟨j, hj, rfl⟩ | hx
  · have hs := X5_isSite_y hm hm4 hj
    have hc := X0_hasSite_y hm hm4 hj
    rcases in_cases a2 30 (by omega) with ⟨c, hc30, rfl⟩ | hx2
    · have hcl := X5_isCell_y hc30
      obtain ⟨q, hq, hq8⟩ := inv_198 h.1
      have g1 : ¬ nI c < 0 := nI_pos (by omega)
      have g2 : nI c < (30 : Int32) := (lt_nI (b := 30) (by omega) (by omega)).mpr hc30
      have oj : ¬ oob (nI j) 4 := by rw [oob_nI (by omega)]; omega
      cases hfz : fR r j c with
      | true =>
        refine Or.inr (Or.inr (Or.inl ⟨left_mk (by omega) (by omega) ?_, hs, hcl, ?_⟩))
        · rw [fo]
          unfold f_X0_faultOfPipe
          rw [hc, Option.bind_some, if_neg i10, if_neg g1, if_pos g2, enc_hi (by omega), hq]
          by_cases e : q = 8
          · subst e
            rw [if_pos (by decide)]; rfl
          · rw [if_neg (fun x => by rw [show (8 : Int32) = nI 8 from rfl, le_nI (by omega) (by omega)] at x; omega), if_neg oj, cl_nI (by omega), E2_isFrozen (by omega) hc30, Option.bind_some, hfz, b2i_t, if_neg i10]; rfl
        · unfold f_X5_canLay
          rw [X5_frozen (by omega) hc30, Option.bind_some, hfz, b2i_t, if_neg i10]
      | false =>
        by_cases e : q = 8
        · subst e
          refine Or.inr (Or.inr (Or.inl ⟨left_mk (by omega) (by omega) ?_, hs, hcl, ?_⟩))
          · rw [fo]
            unfold f_X0_faultOfPipe
            rw [hc, Option.bind_some, if_neg i10, if_neg g1, if_pos g2, enc_hi (by omega), hq, if_pos (by decide)]; rfl
          · unfold f_X5_canLay
            rw [X5_frozen (by omega) hc30, Option.bind_some, hfz, b2i_f, if_pos rfl, show (198 : Int32).toNatClampNeg = 198 from rfl, hq, if_pos (by decide)]
        · have n8 : ¬ (8 : Int32) ≤ nI q := fun x => by rw [show (8 : Int32) = nI 8 from rfl, le_nI (by omega) (by omega)] at x; omega
          have hf : f_X0_faultOfPipe (enc r) (nI j) (nI c) = some 0 := by
            unfold f_X0_faultOfPipe
            rw [hc, Option.bind_some, if_neg i10, if_neg g1, if_pos g2, enc_hi (by omega), hq, if_neg n8, if_neg oj, cl_nI (by omega), E2_isFrozen (by omega) hc30, Option.bind_some, hfz, b2i_f, if_pos rfl]
          refine Or.inr (Or.inr (Or.inr ⟨⟨nI q, upd (upd (upd r (156 + 5 * q) (nI j)) (157 + 5 * q) (nI c)) 198 (nI (q + 1)), ?_, ?_, ?_, nI_pos' (by omega), d, ?_⟩, hs, hcl, ?_⟩))
          · rw [fo, hf]
          · unfold f_X0_perform
            rw [fo, hf, Option.bind_some, if_pos rfl, if_neg (by decide), if_neg (by decide), if_neg (by decide), if_pos rfl]
            unfold f_X0_addPipe
            have q8 : ¬ 8 ≤ q := by omega
            simp (maxSteps := 2000000) (disch := omega) only [↓Lm1, L0, L1, L2, L3, L4, L5, L6, L7, L8, L9, L10, L11, L12, L14, L15, L16, L20, L21, L29, L30, L31, L32, L35, L45, L48, L50, L60, L68, L97, L99, L100, L101, L102, L112, L115, L116, L119, L120, L128, L140, L156, L196, L197, L198, L199, L200, L201, L202, L203, L204, L205, L255, L400, L410, L1000, L2665, L2870, L9999, L10000, L100000, L1000000, le_nI, lt_nI, eq_nI, oob_nI, cl_nI, sub_nI, add_nI, mul_nI, b2i_t2, b2i_f2, n10, n01, em1, em2, lm1, lm2, lm3, lm4, if_true, if_false, Option.bind_some, Nat.add_zero, Bool.false_eq_true, not_true, not_false_eq_true, enc_hi, enc_uph, upd_off, upd_at, hq, q8]
          · unfold f_X5_addPipe
            have q1 : ¬ 205 ≤ 156 + 5 * q := by omega
            have q2 : ¬ 205 ≤ 157 + 5 * q := by omega
            have e2 : 156 + 5 * q + 1 = 157 + 5 * q := by omega
            have e3 : 1 ≤ q + 1 := by omega
            simp (maxSteps := 2000000) (disch := omega) only [↓Lm1, L0, L1, L2, L3, L4, L5, L6, L7, L8, L9, L10, L11, L12, L14, L15, L16, L20, L21, L29, L30, L31, L32, L35, L45, L48, L50, L60, L68, L97, L99, L100, L101, L102, L112, L115, L116, L119, L120, L128, L140, L156, L196, L197, L198, L199, L200, L201, L202, L203, L204, L205, L255, L400, L410, L1000, L2665, L2870, L9999, L10000, L100000, L1000000, le_nI, lt_nI, eq_nI, oob_nI, cl_nI, sub_nI, add_nI, mul_nI, b2i_t2, b2i_f2, n10, n01, em1, em2, lm1, lm2, lm3, lm4, if_true, if_false, Option.bind_some, Nat.add_zero, Bool.false_eq_true, not_true, not_false_eq_true, upd_off, upd_at, hq, q1, q2, e2, e3, Nat.add_sub_cancel]
          · refine gd_198 (gd_hi (gd_p0 h hq (by omega) (by omega)) (by omega) (by omega) (by omega) (bq_p1 (by omega)) (Nat.zero_le _) (by show c ≤ 29; omega)) ?_ (by omega) ?_
            · rw [pk_un (by omega), pk_un (by omega)]; exact hq
            · rw [pk_un (by omega), pk_us, pk_un (by omega), pk_un (by omega), hm, lt_nI (by omega) (by omega)]; exact hj
          · unfold f_X5_canLay
            rw [X5_frozen (by omega) hc30, Option.bind_some, hfz, b2i_f, if_pos rfl, show (198 : Int32).toNatClampNeg = 198 from rfl, hq, if_neg n8]
    · refine Or.inr (Or.inl ⟨left_mk (by omega) (by omega) ?_, hs, X5_isCell_n hx2, hx2⟩)
      rw [fo]
      unfold f_X0_faultOfPipe
      rw [hc, Option.bind_some, if_neg i10]
      by_cases h1 : a2 < 0
      · rw [if_pos h1]; rfl
      · rw [if_neg h1, if_neg (show ¬ a2 < (30 : Int32) from Int32.not_lt.mpr (hx2.resolve_left h1))]; rfl
  · refine Or.inl ⟨left_mk (by omega) (by omega) ?_, X5_isSite_n hm hm4 hx⟩
    rw [fo]
    unfold f_X0_faultOfPipe
    rw [X0_hasSite_n hm hx]
    rfl
theorem X5_put_at {r : Row} {k : Nat} {x v : Int32} (hx : x = nI k) (hk : k < 205) : f_X5_put r x v = some (r k, upd r k v) := by
  subst hx
  unfold f_X5_put
  have o : ¬ oob (nI k) 205 := by rw [oob_nI (by omega)]; omega
  rw [if_neg o, if_neg o, cl_nI (by omega)]
theorem fence_cases {d : Nat} {r : Row} (a1 a2 : Int32) (h : gd 9999 d r) :
    (left r 102 a1 a2 0 1 ∧ f_X5_isSite r a1 = some 0) ∨ (left r 102 a1 a2 0 2 ∧ f_X5_isSite r a1 = some 1 ∧ ¬ (0 ≤ a2 ∧ a2 ≤ 20)) ∨ (done r 102 a1 a2 0 (f_X5_put r (35 * a1 + 1) a2) ∧ f_X5_isSite r a1 = some 1 ∧ (0 ≤ a2 ∧ a2 ≤ 20)) := by
  obtain ⟨m, hm, hm4⟩ := inv_196 h.1
  have fo : f_X0_faultOf (enc r) 102 a1 a2 0 = f_X0_faultOfFence (enc r) a1 a2 := by
    unfold f_X0_faultOf
    rw [if_neg (by decide), if_neg (by decide), if_pos rfl, obs]
  rcases in_cases a1 m (by omega) with ⟨j, hj, rfl⟩ | hx
  · have hs := X5_isSite_y hm hm4 hj
    have hc := X0_hasSite_y hm hm4 hj
    by_cases hr : (0 : Int32) ≤ a2 ∧ a2 ≤ 20
    · obtain ⟨l, hl, rfl⟩ := rng_nI (n := 20) (by omega) hr
      obtain ⟨⟨_, _, _⟩, ⟨q, hq, hq2⟩⟩ := inv_sw h.1 (by omega : j < 4)
      have hf : f_X0_faultOfFence (enc r) (nI j) (nI l) = some 0 := by
        unfold f_X0_faultOfFence
        rw [hc, Option.bind_some, if_neg i10, if_neg (nI_pos (by omega)), if_neg (Int32.not_lt.mpr hr.2)]
      have oj : ¬ oob (nI j) 4 := by rw [oob_nI (by omega)]; omega
      refine Or.inr (Or.inr ⟨⟨nI q, upd r (35 * j + 1) (nI l), ?_, ?_, ?_, nI_pos' (by omega), d, gd_s1 h (by omega) hl⟩, hs, hr⟩)
      · rw [fo, hf]
      · unfold f_X0_perform
        rw [fo, hf, Option.bind_some, if_pos rfl, if_neg (by decide), if_neg (by decide), if_pos rfl]
        unfold f_X0_buildFence
        rw [if_neg oj, if_neg oj, cl_nI (by omega), enc_lo (by omega), hq2, enc_upl (by omega)]
        rfl
      · rw [X5_put_at (k := 35 * j + 1) (by rw [show (35 : Int32) = nI 35 from rfl, show (1 : Int32) = nI 1 from rfl, mul_nI, add_nI]) (by omega), hq2]
    · refine Or.inr (Or.inl ⟨left_mk (by omega) (by omega) ?_, hs, hr⟩)
      rw [fo]
      unfold f_X0_faultOfFence
      rw [hc, Option.bind_some, if_neg i10]
      by_cases h1 : a2 < 0
      · rw [if_pos h1]; rfl
      · rw [if_neg h1]
        by_cases h2 : 20 < a2
        · rw [if_pos h2]; rfl
        · exact absurd ⟨Int32.not_lt.mp h1, Int32.not_lt.mp h2⟩ hr
  · refine Or.inl ⟨left_mk (by omega) (by omega) ?_, X5_isSite_n hm hm4 hx⟩
    rw [fo]
    unfold f_X0_faultOfFence
    rw [X0_hasSite_n hm hx]
    rfl
theorem shovel_cases {d : Nat} {r : Row} (a1 : Int32) (h : gd 9999 d r) :
    (left r 120 a1 0 0 1 ∧ f_X5_isSite r a1 = some 0) ∨ (done r 120 a1 0 0 (f_X5_put r (35 * a1 + 0) 0) ∧ f_X5_isSite r a1 = some 1) := by
  obtain ⟨m, hm, hm4⟩ := inv_196 h.1
  have fo : f_X0_faultOf (enc r) 120 a1 0 0 = (f_X0_hasSite (enc r) a1).bind fun r20 => (if r20 = 0 then some (1 : Int32) else some (0 : Int32)) := by
    unfold f_X0_faultOf
    rw [if_neg (by decide), if_neg (by decide), if_neg (by decide), if_neg (by decide), if_neg (by decide), if_neg (by decide), if_neg (by decide), if_pos rfl]
  rcases in_cases a1 m (by omega) with ⟨j, hj, rfl⟩ | hx
  · have hs := X5_isSite_y hm hm4 hj
    have hc := X0_hasSite_y hm hm4 hj
    obtain ⟨⟨q, hq, hq2⟩, _⟩ := inv_sw h.1 (by omega : j < 4)
    have oj : ¬ oob (nI j) 4 := by rw [oob_nI (by omega)]; omega
    refine Or.inr ⟨⟨nI q, upd r (35 * j) (nI 0), ?_, ?_, ?_, nI_pos' (by omega), d, gd_s0 h (by omega) (by omega)⟩, hs⟩
    · rw [fo, hc]; rfl
    · unfold f_X0_perform
      rw [fo, hc, Option.bind_some, if_neg i10, Option.bind_some, if_pos rfl, if_neg (by decide), if_neg (by decide), if_neg (by decide), if_neg (by decide), if_neg (by decide), if_neg (by decide), if_neg (by decide), if_pos rfl]
      unfold f_X0_clearSnow
      rw [if_neg oj, if_neg oj, cl_nI (by omega), Nat.add_zero, enc_l0, hq2, enc_up0]
      rfl
    · rw [X5_put_at (k := 35 * j) (by rw [show (35 : Int32) = nI 35 from rfl, show (0 : Int32) = nI 0 from rfl, mul_nI, add_nI, Nat.add_zero]) (by omega), hq2]
      rfl
  · refine Or.inl ⟨left_mk (by omega) (by omega) ?_, X5_isSite_n hm hm4 hx⟩
    rw [fo, X0_hasSite_n hm hx]
    rfl
theorem dg_of {x : Int32} (h : (-30 : Int32) ≤ x ∧ x ≤ 30) : dg x := by
  by_cases h0 : x < 0
  · refine Or.inr ?_
    have e : (-30 : Int32).toInt = -30 := by decide
    have h1 := h.1
    rw [Int32.le_iff_toInt_le, e] at h1
    rw [lt0_iff] at h0
    refine ⟨(-x.toInt).toNat, by omega, by omega, ?_⟩
    apply Int32.toInt_inj.mp
    have e2 : (nI (-x.toInt).toNat).toInt = -x.toInt := by
      rw [nI_toInt (by omega)]
      omega
    have e3 : -nI (-x.toInt).toNat = nI 0 - nI (-x.toInt).toNat := (Int32.zero_sub _).symm
    rw [e3, Int32.toInt_sub, e2, show (nI 0).toInt = 0 from rfl, Int.bmod_eq_of_le (by omega) (by omega)]
    omega
  · obtain ⟨j, h1, h2⟩ := rng_nI (n := 30) (by omega) ⟨Int32.not_lt.mp h0, h.2⟩
    exact Or.inl ⟨j, h1, h2⟩
theorem X5_isDegree_y {x : Int32} (h : (-30 : Int32) ≤ x ∧ x ≤ 30) : f_X5_isDegree x = some 1 := by
  unfold f_X5_isDegree
  rw [X5_in_y h (by decide) (by decide)]
  rfl
theorem X5_isDegree_n {x : Int32} (h : ¬ ((-30 : Int32) ≤ x ∧ x ≤ 30)) : f_X5_isDegree x = some 0 := by
  unfold f_X5_isDegree
  rw [X5_in_n h (by decide) (by decide)]
  rfl
def wea (t w n : Int32) : Prop := ((-30 : Int32) ≤ t ∧ t ≤ 30) ∧ (0 ≤ w ∧ w ≤ 30) ∧ (1 ≤ n ∧ n ≤ 60)
theorem X5_isWeather_y {t w n : Int32} (h : wea t w n) : f_X5_isWeather t w n = some 1 := by
  unfold f_X5_isWeather
  rw [X5_isDegree_y h.1, Option.bind_some, if_neg i10, X5_in_y h.2.1 (by decide) (by decide), Option.bind_some, if_neg i10, X5_in_y h.2.2 (by decide) (by decide), Option.bind_some, if_neg i10]
theorem X5_isWeather_n {t w n : Int32} (h : ¬ wea t w n) : f_X5_isWeather t w n = some 0 := by
  unfold f_X5_isWeather
  by_cases h1 : (-30 : Int32) ≤ t ∧ t ≤ 30
  · rw [X5_isDegree_y h1, Option.bind_some, if_neg i10]
    by_cases h2 : (0 : Int32) ≤ w ∧ w ≤ 30
    · rw [X5_in_y h2 (by decide) (by decide), Option.bind_some, if_neg i10]
      by_cases h3 : (1 : Int32) ≤ n ∧ n ≤ 60
      · exact absurd ⟨h1, h2, h3⟩ h
      · rw [X5_in_n h3 (by decide) (by decide), Option.bind_some, if_pos rfl]
    · rw [X5_in_n h2 (by decide) (by decide), Option.bind_some, if_pos rfl]
  · rw [X5_isDegree_n h1, Option.bind_some, if_pos rfl]
theorem days_cases {d : Nat} {r : Row} (t w n : Int32) (h : gd 9999 d r) :
    (left r 100 t w n 2 ∧ ¬ wea t w n) ∨ (left r 100 t w n 3 ∧ wea t w n ∧ f_X5_hasDays r n = some 0) ∨ (done r 100 t w n (f_X5_goDays r t w n) ∧ wea t w n ∧ f_X5_hasDays r n = some 1) := by
  have fo : f_X0_faultOf (enc r) 100 t w n = f_X0_faultOfDays (enc r) t w n := by
    unfold f_X0_faultOf
    rw [if_pos rfl, obs]
  by_cases hw : wea t w n
  · obtain ⟨h1, h2, h3⟩ := hw
    obtain ⟨w', hw', rfl⟩ := rng_nI (n := 30) (by omega) h2
    obtain ⟨n', hn', rfl⟩ := rng_nI (n := 60) (by omega) ⟨Int32.le_trans (by decide) h3.1, h3.2⟩
    have hd9 := h.2.2.1
    have ef : f_X0_faultOfDays (enc r) t (nI w') (nI n') = if (9999 : Int32) < nI (d + n') then some 3 else some 0 := by
      unfold f_X0_faultOfDays
      rw [if_neg (Int32.not_lt.mpr h1.1), if_neg (Int32.not_lt.mpr h1.2), if_neg (Int32.not_lt.mpr h2.1), if_neg (Int32.not_lt.mpr h2.2), if_neg (Int32.not_lt.mpr h3.1), if_pos h3.2, enc_hi (by omega), h.2.1, add_nI]
    have ed : f_X5_hasDays r (nI n') = if (9999 : Int32) < nI (d + n') then some 0 else some 1 := by
      unfold f_X5_hasDays
      rw [show (199 : Int32).toNatClampNeg = 199 from rfl, h.2.1, add_nI]
    by_cases hc : d + n' ≤ 9999
    · have hc' : ¬ (9999 : Int32) < nI (d + n') := fun x => by
        rw [show (9999 : Int32) = nI 9999 from rfl, lt_nI (by omega) (by omega)] at x
        omega
      rw [if_neg hc'] at ef ed
      have ht := dg_of h1
      have hgo : gd 9999 (d + n') (S_go r t (nI w') n') := gd_go ht hw' n' 0 d r h hc
      have hac := ac_le (S_go r t (nI w') n')
      refine Or.inr (Or.inr ⟨⟨nI (ac (S_go r t (nI w') n')), S_go r t (nI w') n', ?_, ?_, ?_, nI_pos' (by omega), d + n', hgo⟩, ⟨h1, h2, h3⟩, ed⟩)
      · rw [fo, ef]
      · unfold f_X0_perform
        rw [fo, ef, Option.bind_some, if_pos rfl, if_pos rfl, X0_passDays h hc ht hw' (by omega)]
        rfl
      · exact X5_goDays h hc ht hw' (by omega)
    · have hc' : (9999 : Int32) < nI (d + n') := by
        rw [show (9999 : Int32) = nI 9999 from rfl, lt_nI (by omega) (by omega)]
        omega
      rw [if_pos hc'] at ef ed
      exact Or.inr (Or.inl ⟨left_mk (by omega) (by omega) (by rw [fo, ef]; rfl), ⟨h1, h2, h3⟩, ed⟩)
  · refine Or.inl ⟨left_mk (by omega) (by omega) ?_, hw⟩
    rw [fo]
    unfold f_X0_faultOfDays
    by_cases g1 : t < -30
    · rw [if_pos g1]; rfl
    · rw [if_neg g1]
      by_cases g2 : 30 < t
      · rw [if_pos g2]; rfl
      · rw [if_neg g2]
        by_cases g3 : w < 0
        · rw [if_pos g3]; rfl
        · rw [if_neg g3]
          by_cases g4 : 30 < w
          · rw [if_pos g4]; rfl
          · rw [if_neg g4]
            by_cases g5 : n < 1
            · rw [if_pos g5]; rfl
            · rw [if_neg g5]
              by_cases g6 : n ≤ 60
              · exact absurd ⟨⟨Int32.not_lt.mp g1, Int32.not_lt.mp g2⟩, ⟨Int32.not_lt.mp g3, Int32.not_lt.mp g4⟩, ⟨Int32.not_lt.mp g5, g6⟩⟩ hw
              · rw [if_neg g6]; rfl
def setok (a v : Int32) : Prop := (a = 0 ∧ 0 ≤ v ∧ v ≤ 30) ∨ (a = 1 ∧ 1 ≤ v ∧ v ≤ 9) ∨ (a = 2 ∧ 0 ≤ v ∧ v ≤ 50)
theorem X5_isSetting_y {a v : Int32} (h : setok a v) : f_X5_isSetting a v = some 1 := by
  unfold f_X5_isSetting
  rcases h with ⟨rfl, h⟩ | ⟨rfl, h⟩ | ⟨rfl, h⟩
  · rw [if_pos rfl, X5_in_y h (by decide) (by decide)]; rfl
  · rw [if_neg (by decide), if_pos rfl, X5_in_y h (by decide) (by decide)]; rfl
  · rw [if_neg (by decide), if_neg (by decide), if_pos rfl, X5_in_y h (by decide) (by decide)]; rfl
theorem X5_isSetting_n {a v : Int32} (h : ¬ setok a v) : f_X5_isSetting a v = some 0 := by
  unfold f_X5_isSetting
  by_cases h0 : a = 0
  · rw [if_pos h0, X5_in_n (fun x => h (Or.inl ⟨h0, x⟩)) (by decide) (by decide)]; rfl
  · rw [if_neg h0]
    by_cases h1 : a = 1
    · rw [if_pos h1, X5_in_n (fun x => h (Or.inr (Or.inl ⟨h1, x⟩))) (by decide) (by decide)]; rfl
    · rw [if_neg h1]
      by_cases h2 : a = 2
      · rw [if_pos h2, X5_in_n (fun x => h (Or.inr (Or.inr ⟨h2, x⟩))) (by decide) (by decide)]; rfl
      · rw [if_neg h2]
theorem set_cases {d : Nat} {r : Row} (a v : Int32) (h : gd 9999 d r) :
    (left r 101 a v 0 2 ∧ ¬ setok a v) ∨ (done r 101 a v 0 (f_X5_put r (202 + a) v) ∧ setok a v) := by
  have fo : f_X0_faultOf (enc r) 101 a v 0 = f_X0_faultOfSetting (enc r) a v := by
    unfold f_X0_faultOf
    rw [if_neg (by decide), if_pos rfl, obs]
  have key : ∀ j : Nat, j < 3 → ∀ (lo hi : Nat), lstI j = nI lo → mstI j = nI hi → hi ≤ 50 → bq 9999 (202 + j) = some (lo, hi) → (nI lo ≤ v ∧ v ≤ nI hi) → done r 101 (nI j) v 0 (f_X5_put r (202 + nI j) v) := by
    intro j hj lo hi hlo hhi h50 hb hv
    have fo' : f_X0_faultOf (enc r) 101 (nI j) v 0 = f_X0_faultOfSetting (enc r) (nI j) v := by
      unfold f_X0_faultOf
      rw [if_neg (by decide), if_pos rfl, obs]
    have oj : ¬ oob (nI j) 3 := by rw [oob_nI (by omega)]; omega
    have j3 : nI j < (3 : Int32) := (lt_nI (b := 3) (by omega) (by omega)).mpr hj
    have ef : f_X0_faultOfSetting (enc r) (nI j) v = some 0 := by
      unfold f_X0_faultOfSetting
      rw [if_neg (nI_pos (by omega)), if_pos j3, if_neg oj, if_neg oj]
      simp (disch := omega) only [cl_nI, hlo, hhi]
      rw [if_neg (Int32.not_lt.mpr hv.1), if_neg (Int32.not_lt.mpr hv.2)]
    obtain ⟨u, hu, hu1, hu2⟩ := inv_at h.1 hb
    obtain ⟨w, hw, rfl⟩ : ∃ w, w ≤ hi ∧ v = nI w := by
      rcases nI_or v (hi + 1) (by omega) with ⟨w, h1, h2⟩ | h1 | h1
      · exact ⟨w, by omega, h2⟩
      · have := Int32.lt_of_le_of_lt hv.1 h1
        exact absurd this (nI_pos (by have : lo ≤ u := hu1; have : u ≤ hi := hu2; omega))
      · have := Int32.le_trans h1 hv.2
        rw [le_nI (by omega) (by omega)] at this
        omega
    have hlw : lo ≤ w := by
      have := hv.1
      rw [le_nI (by have : lo ≤ u := hu1; have : u ≤ hi := hu2; omega) (by omega)] at this
      exact this
    refine ⟨nI u, upd r (202 + j) (nI w), ?_, ?_, ?_, nI_pos' (by have : u ≤ hi := hu2; omega), d, gd_hi h (by omega) (by omega) (by omega) hb hlw hw⟩
    · rw [fo', ef]
    · unfold f_X0_perform
      rw [fo', ef, Option.bind_some, if_pos rfl, if_neg (by decide), if_pos rfl]
      unfold f_X0_changeSetting
      rw [if_neg oj, if_neg oj, cl_nI (by omega), enc_hi (by omega), enc_uph (by omega), hu]
      rfl
    · rw [X5_put_at (k := 202 + j) (by rw [show (202 : Int32) = nI 202 from rfl, add_nI]) (by omega), hu]
  by_cases hs : setok a v
  · refine Or.inr ⟨?_, hs⟩
    rcases hs with ⟨rfl, hs⟩ | ⟨rfl, hs⟩ | ⟨rfl, hs⟩
    · exact key 0 (by omega) 0 30 rfl rfl (by omega) rfl hs
    · exact key 1 (by omega) 1 9 rfl rfl (by omega) rfl hs
    · exact key 2 (by omega) 0 50 rfl rfl (by omega) rfl hs
  · refine Or.inl ⟨left_mk (by omega) (by omega) ?_, hs⟩
    rw [fo]
    have bad : ∀ j : Nat, j < 3 → ∀ (lo hi : Int32), lstI j = lo → mstI j = hi → ¬ (lo ≤ v ∧ v ≤ hi) → f_X0_faultOfSetting (enc r) (nI j) v = some 2 := by
      intro j hj lo hi hlo hhi hv
      have oj : ¬ oob (nI j) 3 := by rw [oob_nI (by omega)]; omega
      have j3 : nI j < (3 : Int32) := (lt_nI (b := 3) (by omega) (by omega)).mpr hj
      unfold f_X0_faultOfSetting
      rw [if_neg (nI_pos (by omega)), if_pos j3, if_neg oj, if_neg oj]
      simp (disch := omega) only [cl_nI, hlo, hhi]
      by_cases g1 : v < lo
      · rw [if_pos g1]
      · rw [if_neg g1]
        by_cases g2 : hi < v
        · rw [if_pos g2]
        · exact absurd ⟨Int32.not_lt.mp g1, Int32.not_lt.mp g2⟩ hv
    rcases in_cases a 3 (by omega) with ⟨j, hj, rfl⟩ | hx
    · have : j = 0 ∨ j = 1 ∨ j = 2 := by omega
      rcases this with e | e | e <;> subst e
      · exact bad 0 (by omega) 0 30 rfl rfl (fun x => hs (Or.inl ⟨rfl, x⟩))
      · exact bad 1 (by omega) 1 9 rfl rfl (fun x => hs (Or.inr (Or.inl ⟨rfl, x⟩)))
      · exact bad 2 (by omega) 0 50 rfl rfl (fun x => hs (Or.inr (Or.inr ⟨rfl, x⟩)))
    · unfold f_X0_faultOfSetting
      by_cases h1 : a < 0
      · rw [if_pos h1]; rfl
      · rw [if_neg h1, if_neg (show ¬ a < (3 : Int32) from Int32.not_lt.mpr (hx.resolve_left h1))]; rfl
/-! the winter -/
def zst (s : Nat) (r : Row) : Row := upd r (35 * s + 4) 0
def gst (r : Row) (s : Nat) (v : Int32) : Int32 := mx (r (35 * s + 4)) v
theorem zst_hi {k : Nat} {n : Nat} {r : Row} (hk : 140 ≤ k) (hn : n ≤ 4) : itr zst 0 n r k = r k :=
  itr_rng (fun s : Row => s k = r k) n 0 r (fun j s _ h2 h3 => by unfold zst; rw [pk_un (by omega)]; exact h3) rfl
theorem zst_upd {k n : Nat} {v : Int32} {r : Row} (hk : 140 ≤ k) (hn : n ≤ 4) : itr zst 0 n (upd r k v) = upd (itr zst 0 n r) k v :=
  itr_comm (fun s => upd s k v) n 0 r (fun j s _ h2 => by unfold zst; rw [upd_comm _ (by omega)])
theorem gst_0 {r : Row} : ∀ m k v, (0 : Int32) ≤ v → 0 ≤ itr (gst r) k m v
  | 0, _, _, h => h
  | m + 1, k, v, h => gst_0 m (k + 1) _ (by
    unfold gst mx
    split
    · rename_i h2
      exact Int32.le_of_lt (Int32.lt_of_le_of_lt h h2)
    · exact h)
theorem X0_greatestSumNow {D : Nat} {r : Row} (h : Inv D r) : f_X0_greatestSumNow (enc r) = some (itr (gst r) 0 (sc r) 0) := by
  obtain ⟨a, ha, ha4⟩ := inv_196 h
  have hl := loop_itr (fun n v k => fl_X0_greatestSumNow (enc r) n v (nI k)) (gst r) (fun v => some v) a
    (fun n v => by
      show fb_X0_greatestSumNow_1 (enc r) (fl_X0_greatestSumNow (enc r) n) v (nI a) = _
      unfold fb_X0_greatestSumNow_1
      simp (maxSteps := 2000000) (disch := omega) only [↓Lm1, L0, L1, L2, L3, L4, L5, L6, L7, L8, L9, L10, L11, L12, L14, L15, L16, L20, L21, L29, L30, L31, L32, L35, L45, L48, L50, L60, L68, L97, L99, L100, L101, L102, L112, L115, L116, L119, L120, L128, L140, L156, L196, L197, L198, L199, L200, L201, L202, L203, L204, L205, L255, L400, L410, L1000, L2665, L2870, L9999, L10000, L100000, L1000000, le_nI, lt_nI, eq_nI, oob_nI, cl_nI, sub_nI, add_nI, mul_nI, b2i_t2, b2i_f2, n10, n01, em1, em2, lm1, lm2, lm3, lm4, if_true, if_false, Option.bind_some, Nat.add_zero, Bool.false_eq_true, not_true, not_false_eq_true, enc_hi, ha, Nat.le_refl])
    (fun n v k hk => by
      have hak : ¬ a ≤ k := by omega
      have hk4 : ¬ 4 ≤ k := by omega
      show fb_X0_greatestSumNow_1 (enc r) (fl_X0_greatestSumNow (enc r) n) v (nI k) = _
      unfold fb_X0_greatestSumNow_1 gst mx
      simp (maxSteps := 2000000) (disch := omega) only [↓Lm1, L0, L1, L2, L3, L4, L5, L6, L7, L8, L9, L10, L11, L12, L14, L15, L16, L20, L21, L29, L30, L31, L32, L35, L45, L48, L50, L60, L68, L97, L99, L100, L101, L102, L112, L115, L116, L119, L120, L128, L140, L156, L196, L197, L198, L199, L200, L201, L202, L203, L204, L205, L255, L400, L410, L1000, L2665, L2870, L9999, L10000, L100000, L1000000, le_nI, lt_nI, eq_nI, oob_nI, cl_nI, sub_nI, add_nI, mul_nI, b2i_t2, b2i_f2, n10, n01, em1, em2, lm1, lm2, lm3, lm4, if_true, if_false, Option.bind_some, Nat.add_zero, Bool.false_eq_true, not_true, not_false_eq_true, enc_hi, enc_lo, ha, hak, hk4]) a FU 0 0 (fu_lt (by omega)) (by omega)
  rw [sc_of ha ha4]
  exact hl
theorem X0_bw_l {r0 : Row} {a : Nat} {v : Int32} (ha4 : a ≤ 4) : ∀ m n k (r : Row), m < n → k + m = a → r 196 = nI a → fl_X0_beginWinter n (enc r) v (nI k) = some (v, enc (itr zst k m r)) := by
  intro m n k r hn hk h6
  have hl := loop_itrI (fun s : Row => s 196 = nI a) (fun n s k => fl_X0_beginWinter n (enc s) v (nI k)) zst (fun s => some (v, enc s)) a
    (fun k s hk hs => by unfold zst; rw [pk_un (by omega)]; exact hs)
    (fun n s hs => by
      show fb_X0_beginWinter_1 (fl_X0_beginWinter n) (enc s) v (nI a) = _
      unfold fb_X0_beginWinter_1
      simp (maxSteps := 2000000) (disch := omega) only [↓Lm1, L0, L1, L2, L3, L4, L5, L6, L7, L8, L9, L10, L11, L12, L14, L15, L16, L20, L21, L29, L30, L31, L32, L35, L45, L48, L50, L60, L68, L97, L99, L100, L101, L102, L112, L115, L116, L119, L120, L128, L140, L156, L196, L197, L198, L199, L200, L201, L202, L203, L204, L205, L255, L400, L410, L1000, L2665, L2870, L9999, L10000, L100000, L1000000, le_nI, lt_nI, eq_nI, oob_nI, cl_nI, sub_nI, add_nI, mul_nI, b2i_t2, b2i_f2, n10, n01, em1, em2, lm1, lm2, lm3, lm4, if_true, if_false, Option.bind_some, Nat.add_zero, Bool.false_eq_true, not_true, not_false_eq_true, enc_hi, hs, Nat.le_refl])
    (fun n s k hk hs => by
      have hak : ¬ a ≤ k := by omega
      have hk4 : ¬ 4 ≤ k := by omega
      show fb_X0_beginWinter_1 (fl_X0_beginWinter n) (enc s) v (nI k) = _
      unfold fb_X0_beginWinter_1 zst
      simp (maxSteps := 2000000) (disch := omega) only [↓Lm1, L0, L1, L2, L3, L4, L5, L6, L7, L8, L9, L10, L11, L12, L14, L15, L16, L20, L21, L29, L30, L31, L32, L35, L45, L48, L50, L60, L68, L97, L99, L100, L101, L102, L112, L115, L116, L119, L120, L128, L140, L156, L196, L197, L198, L199, L200, L201, L202, L203, L204, L205, L255, L400, L410, L1000, L2665, L2870, L9999, L10000, L100000, L1000000, le_nI, lt_nI, eq_nI, oob_nI, cl_nI, sub_nI, add_nI, mul_nI, b2i_t2, b2i_f2, n10, n01, em1, em2, lm1, lm2, lm3, lm4, if_true, if_false, Option.bind_some, Nat.add_zero, Bool.false_eq_true, not_true, not_false_eq_true, enc_hi, enc_upl, hs, hak, hk4]) m n k r h6 hn hk
  exact hl
def S_wi (r : Row) : Row := upd (upd (itr zst 0 (sc r) r) 200 (r 200 + 1)) 201 (mx (itr (gst r) 0 (sc r) 0) (r 201))
theorem X0_beginWinter {D : Nat} {r : Row} (h : Inv D r) : f_X0_beginWinter (enc r) = some (itr (gst r) 0 (sc r) 0, enc (S_wi r)) := by
  obtain ⟨a, ha, ha4⟩ := inv_196 h
  unfold f_X0_beginWinter
  rw [X0_greatestSumNow h, Option.bind_some]
  simp (disch := omega) only [enc_hi, enc_uph, upd_off]
  rw [show (0 : Int32) = nI 0 from rfl, X0_bw_l (r0 := r) ha4 a FU 0 _ (fu_lt (by omega)) (by omega) (by rw [pk_un (by omega), pk_un (by omega)]; exact ha)]
  unfold S_wi
  rw [sc_of ha ha4, zst_upd (by omega) ha4, zst_upd (by omega) ha4, upd_comm _ (by omega)]
  rfl
theorem gst_congr {r s : Row} (m k : Nat) (v : Int32) (h : ∀ j, k ≤ j → j < k + m → r (35 * j + 4) = s (35 * j + 4)) : itr (gst r) k m v = itr (gst s) k m v :=
  itr_two (fun a b => a = b) m k v v (fun j a b h1 h2 h3 => by
    rw [h3]
    unfold gst
    rw [h j h1 h2]) rfl
theorem X5_bw_l {a : Nat} (ha4 : a ≤ 4) : ∀ m n k (r : Row) v, m < n → k + m = a → r 196 = nI a → fl_X5_beginWinter n r v (nI k) = some (itr (gst r) k m v, upd (upd (itr zst k m r) 200 (itr zst k m r 200 + 1)) 201 (mx (itr (gst r) k m v) (itr zst k m r 201)))
  | 0, n + 1, k, r, v, _, hk, h6 => by
    have e : k = a := by omega
    subst e
    show fb_X5_beginWinter_1 (fl_X5_beginWinter n) r v (nI k) = some (v, upd (upd r 200 (r 200 + 1)) 201 (mx v (r 201)))
    unfold fb_X5_beginWinter_1 mx
    by_cases hv : v ≤ r 201
    · have hv' : ¬ r 201 < v := Int32.not_lt.mpr hv
      simp (maxSteps := 2000000) (disch := omega) only [↓Lm1, L0, L1, L2, L3, L4, L5, L6, L7, L8, L9, L10, L11, L12, L14, L15, L16, L20, L21, L29, L30, L31, L32, L35, L45, L48, L50, L60, L68, L97, L99, L100, L101, L102, L112, L115, L116, L119, L120, L128, L140, L156, L196, L197, L198, L199, L200, L201, L202, L203, L204, L205, L255, L400, L410, L1000, L2665, L2870, L9999, L10000, L100000, L1000000, le_nI, lt_nI, eq_nI, oob_nI, cl_nI, sub_nI, add_nI, mul_nI, b2i_t2, b2i_f2, n10, n01, em1, em2, lm1, lm2, lm3, lm4, if_true, if_false, Option.bind_some, Nat.add_zero, Bool.false_eq_true, not_true, not_false_eq_true, h6, Nat.le_refl, upd_off, hv, hv']
    · have hv' : r 201 < v := Int32.not_le.mp hv
      simp (maxSteps := 2000000) (disch := omega) only [↓Lm1, L0, L1, L2, L3, L4, L5, L6, L7, L8, L9, L10, L11, L12, L14, L15, L16, L20, L21, L29, L30, L31, L32, L35, L45, L48, L50, L60, L68, L97, L99, L100, L101, L102, L112, L115, L116, L119, L120, L128, L140, L156, L196, L197, L198, L199, L200, L201, L202, L203, L204, L205, L255, L400, L410, L1000, L2665, L2870, L9999, L10000, L100000, L1000000, le_nI, lt_nI, eq_nI, oob_nI, cl_nI, sub_nI, add_nI, mul_nI, b2i_t2, b2i_f2, n10, n01, em1, em2, lm1, lm2, lm3, lm4, if_true, if_false, Option.bind_some, Nat.add_zero, Bool.false_eq_true, not_true, not_false_eq_true, h6, Nat.le_refl, upd_off, hv, hv']
  | m + 1, n + 1, k, r, v, hn, hk, h6 => by
    have ih := X5_bw_l ha4 m n (k + 1) (zst k r) (gst r k v) (by omega) (by omega) (by unfold zst; rw [pk_un (by omega)]; exact h6)
    have ec : itr (gst (zst k r)) (k + 1) m (gst r k v) = itr (gst r) (k + 1) m (gst r k v) := gst_congr m (k + 1) _ (fun j h1 h2 => by unfold zst; rw [pk_un (by omega)])
    rw [ec] at ih
    show fb_X5_beginWinter_1 (fl_X5_beginWinter n) r v (nI k) = some (itr (gst r) (k + 1) m (gst r k v), upd (upd (itr zst (k + 1) m (zst k r)) 200 (itr zst (k + 1) m (zst k r) 200 + 1)) 201 (mx (itr (gst r) (k + 1) m (gst r k v)) (itr zst (k + 1) m (zst k r) 201)))
    rw [← ih]
    unfold fb_X5_beginWinter_1
    have hak : ¬ nI a ≤ nI k := fun x => by rw [le_nI (by omega) (by omega)] at x; omega
    have e1 : nI k + 1 = nI (k + 1) := add_nI k 1
    rw [show (196 : Int32).toNatClampNeg = 196 from rfl, h6, if_neg hak, X5_put_at (k := 35 * k + 4) (by rw [show (35 : Int32) = nI 35 from rfl, show (4 : Int32) = nI 4 from rfl, mul_nI, add_nI]) (by omega), Option.bind_some, e1]
    unfold gst mx zst
    by_cases hv : r (35 * k + 4) ≤ v
    · rw [if_pos hv, if_neg (Int32.not_lt.mpr hv)]
    · rw [if_neg hv, if_pos (Int32.not_le.mp hv)]
theorem X5_beginWinter {D : Nat} {r : Row} (h : Inv D r) : f_X5_beginWinter r = some (itr (gst r) 0 (sc r) 0, S_wi r) := by
  obtain ⟨a, ha, ha4⟩ := inv_196 h
  have hl := X5_bw_l ha4 a FU 0 r 0 (fu_lt (by omega)) (by omega) ha
  unfold S_wi
  rw [sc_of ha ha4]
  rw [zst_hi (by omega) ha4, zst_hi (by omega) ha4] at hl
  exact hl
theorem winter_done {d : Nat} {r : Row} (h : gd 9999 d r) : done r 119 0 0 0 (f_X5_beginWinter r) := by
  have fo : f_X0_faultOf (enc r) 119 0 0 0 = some 0 := by
    unfold f_X0_faultOf
    rw [if_neg (by decide), if_neg (by decide), if_neg (by decide), if_neg (by decide), if_neg (by decide), if_neg (by decide), if_pos rfl]
  have := sc_le r
  refine ⟨itr (gst r) 0 (sc r) 0, S_wi r, fo, ?_, X5_beginWinter h.1, gst_0 _ _ _ (by decide), d, ?_⟩
  · unfold f_X0_perform
    rw [fo, Option.bind_some, if_pos rfl, if_neg (by decide), if_neg (by decide), if_neg (by decide), if_neg (by decide), if_neg (by decide), if_neg (by decide), if_pos rfl, X0_beginWinter h.1]
    rfl
  · unfold S_wi
    refine gd_free (gd_free ?_ (by omega) (by omega) rfl rfl) (by omega) (by omega) rfl rfl
    exact itr_rng (fun s => gd 9999 d s) (sc r) 0 r (fun j s _ h2 h3 => gd_sf h3 (by omega) (by omega) (by omega)) h
