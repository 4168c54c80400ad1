/-! what is read of a site: both sides by which of its cells are frozen -/
def fC (g : Row) (z c : Nat) : Bool := !(decide (g (35 * z + (5 + c)) = -1))
def fR (r : Row) (z c : Nat) : Bool := decide (0 < r (35 * z + (5 + c)))
theorem X2_isFrozen {g : Row} {z c : Nat} (hc : c < 30) : f_X2_isFrozen g z (nI c) = some (b2i (fC g z c)) := by
  have h1 : ¬ c < 0 := by omega
  have h2 : ¬ 30 ≤ c := by omega
  unfold f_X2_isFrozen
  unfold fC b2i
  by_cases h : g (35 * z + (5 + c)) = -1
  · rw [decide_eq_true h]
    have h' : g (35 * z + (5 + c)) = mI1 := h
    simp (disch := omega) only [↓Lm1, L0, L1, L2, L3, L4, L5, L6, L7, L8, L9, L10, L11, L12, L14, L15, L16, L20, L21, L29, L30, L31, L32, L35, L45, L48, L50, L60, L68, L97, L99, L100, L101, L102, L112, L115, L116, L119, L120, L128, L140, L156, L196, L197, L198, L199, L200, L201, L202, L203, L204, L205, L255, L400, L410, L1000, L2665, L2870, L9999, L10000, L100000, L1000000, le_nI, lt_nI, eq_nI, oob_nI, cl_nI, sub_nI, add_nI, mul_nI, b2i_t2, b2i_f2, n10, n01, em1, em2, lm1, lm2, lm3, lm4, if_true, if_false, Option.bind_some, Nat.add_zero, Bool.false_eq_true, not_true, not_false_eq_true, h1, h2, h', Bool.not_true]
  · rw [decide_eq_false h]
    have h' : ¬ g (35 * z + (5 + c)) = mI1 := h
    simp (disch := omega) only [↓Lm1, L0, L1, L2, L3, L4, L5, L6, L7, L8, L9, L10, L11, L12, L14, L15, L16, L20, L21, L29, L30, L31, L32, L35, L45, L48, L50, L60, L68, L97, L99, L100, L101, L102, L112, L115, L116, L119, L120, L128, L140, L156, L196, L197, L198, L199, L200, L201, L202, L203, L204, L205, L255, L400, L410, L1000, L2665, L2870, L9999, L10000, L100000, L1000000, le_nI, lt_nI, eq_nI, oob_nI, cl_nI, sub_nI, add_nI, mul_nI, b2i_t2, b2i_f2, n10, n01, em1, em2, lm1, lm2, lm3, lm4, if_true, if_false, Option.bind_some, Nat.add_zero, Bool.false_eq_true, not_true, not_false_eq_true, h1, h2, h', Bool.not_false]
theorem X2_isFrozen_out {g : Row} {z : Nat} {a : Int32} (h : a < 0 ∨ 30 ≤ a) : f_X2_isFrozen g z a = some 0 := by
  unfold f_X2_isFrozen
  by_cases h1 : a < 0
  · rw [if_pos h1]
  · rw [if_neg h1]
    rcases h with h | h
    · exact absurd h h1
    · rw [if_pos h]
theorem b2i_t : b2i true = 1 := rfl
theorem b2i_f : b2i false = 0 := rfl
theorem i10 : ¬ (1 : Int32) = 0 := by decide
theorem X2_frozenWithin {g : Row} {z e : Nat} (he : e ≤ 30) : f_X2_frozenWithin g z (nI e) = some (nI (cf (fC g z) 0 e)) := by
  have h := loop_itr (fun n a k => fl_X2_frozenWithin g z (nI e) n (nI a) (nI k)) (fun k a => a + (if fC g z k then 1 else 0)) (fun a => some (nI a)) e (fun n a => by
      show fb_X2_frozenWithin_1 g z (nI e) (fl_X2_frozenWithin g z (nI e) n) (nI a) (nI e) = _
      unfold fb_X2_frozenWithin_1
      rw [if_pos ((le_nI (by omega) (by omega)).mpr (Nat.le_refl _))]) (fun n a k hk => by
      have h1 : ¬ e ≤ k := by omega
      have h2 : ¬ 30 ≤ k := by omega
      show fb_X2_frozenWithin_1 g z (nI e) (fl_X2_frozenWithin g z (nI e) n) (nI a) (nI k) = _
      unfold fb_X2_frozenWithin_1
      rw [X2_isFrozen (by omega)]
      cases fC g z k <;> simp (disch := omega) only [↓Lm1, L0, L1, L2, L3, L4, L5, L6, L7, L8, L9, L10, L11, L12, L14, L15, L16, L20, L21, L29, L30, L31, L32, L35, L45, L48, L50, L60, L68, L97, L99, L100, L101, L102, L112, L115, L116, L119, L120, L128, L140, L156, L196, L197, L198, L199, L200, L201, L202, L203, L204, L205, L255, L400, L410, L1000, L2665, L2870, L9999, L10000, L100000, L1000000, le_nI, lt_nI, eq_nI, oob_nI, cl_nI, sub_nI, add_nI, mul_nI, b2i_t2, b2i_f2, n10, n01, em1, em2, lm1, lm2, lm3, lm4, if_true, if_false, Option.bind_some, Nat.add_zero, Bool.false_eq_true, not_true, not_false_eq_true, h1, h2]) e FU 0 0 (fu_lt (by omega)) (by omega)
  rw [itr_cf, Nat.zero_add] at h
  exact h
theorem X2_beginsLayer {g : Row} {z c : Nat} (hc : c < 30) : f_X2_beginsLayer g z (nI c) = some (b2i (bgn (fC g z) c)) := by
  unfold f_X2_beginsLayer
  rw [X2_isFrozen hc, Option.bind_some]
  unfold bgn
  cases hp : fC g z c with
  | false => simp [b2i]
  | true =>
    rw [b2i_t, if_neg i10]
    by_cases h0 : c = 0
    · subst h0
      rw [X2_isFrozen_out (Or.inl (by decide)), Option.bind_some]
      simp [b2i]
    · obtain ⟨d, rfl⟩ : ∃ d, c = d + 1 := ⟨c - 1, by omega⟩
      have e : nI (d + 1) - 1 = nI d := nI_m1 d
      rw [e, X2_isFrozen (by omega), Option.bind_some]
      cases hq : fC g z d <;> simp [b2i, hq]
theorem X2_layersWithin {g : Row} {z e : Nat} (he : e ≤ 30) : f_X2_layersWithin g z (nI e) = some (nI (cf (bgn (fC g z)) 0 e)) := by
  have h := loop_itr (fun n a k => fl_X2_layersWithin g z (nI e) n (nI a) (nI k)) (fun k a => a + (if bgn (fC g z) k then 1 else 0)) (fun a => some (nI a)) e (fun n a => by
      show fb_X2_layersWithin_1 g z (nI e) (fl_X2_layersWithin g z (nI e) n) (nI a) (nI e) = _
      unfold fb_X2_layersWithin_1
      rw [if_pos ((le_nI (by omega) (by omega)).mpr (Nat.le_refl _))]) (fun n a k hk => by
      have h1 : ¬ e ≤ k := by omega
      have h2 : ¬ 30 ≤ k := by omega
      show fb_X2_layersWithin_1 g z (nI e) (fl_X2_layersWithin g z (nI e) n) (nI a) (nI k) = _
      unfold fb_X2_layersWithin_1
      rw [X2_beginsLayer (by omega)]
      cases bgn (fC g z) k <;> simp (disch := omega) only [↓Lm1, L0, L1, L2, L3, L4, L5, L6, L7, L8, L9, L10, L11, L12, L14, L15, L16, L20, L21, L29, L30, L31, L32, L35, L45, L48, L50, L60, L68, L97, L99, L100, L101, L102, L112, L115, L116, L119, L120, L128, L140, L156, L196, L197, L198, L199, L200, L201, L202, L203, L204, L205, L255, L400, L410, L1000, L2665, L2870, L9999, L10000, L100000, L1000000, le_nI, lt_nI, eq_nI, oob_nI, cl_nI, sub_nI, add_nI, mul_nI, b2i_t2, b2i_f2, n10, n01, em1, em2, lm1, lm2, lm3, lm4, if_true, if_false, Option.bind_some, Nat.add_zero, Bool.false_eq_true, not_true, not_false_eq_true, h1, h2]) e FU 0 0 (fu_lt (by omega)) (by omega)
  rw [itr_cf, Nat.zero_add] at h
  exact h
theorem X2_lowestWithin {g : Row} {z e : Nat} (he : e ≤ 30) : f_X2_lowestWithin g z (nI e) = some (ld (fC g z) e) := by
  have h := loop_itr (fun n a k => fl_X2_lowestWithin g z (nI e) n a (nI k)) (fun k a => if fC g z k then nI k else a) (fun a => some a) e (fun n a => by
      show fb_X2_lowestWithin_1 g z (nI e) (fl_X2_lowestWithin g z (nI e) n) a (nI e) = _
      unfold fb_X2_lowestWithin_1
      rw [if_pos ((le_nI (by omega) (by omega)).mpr (Nat.le_refl _))]) (fun n a k hk => by
      have h1 : ¬ e ≤ k := by omega
      have h2 : ¬ 30 ≤ k := by omega
      show fb_X2_lowestWithin_1 g z (nI e) (fl_X2_lowestWithin g z (nI e) n) a (nI k) = _
      unfold fb_X2_lowestWithin_1
      rw [X2_isFrozen (by omega)]
      cases fC g z k <;> simp (disch := omega) only [↓Lm1, L0, L1, L2, L3, L4, L5, L6, L7, L8, L9, L10, L11, L12, L14, L15, L16, L20, L21, L29, L30, L31, L32, L35, L45, L48, L50, L60, L68, L97, L99, L100, L101, L102, L112, L115, L116, L119, L120, L128, L140, L156, L196, L197, L198, L199, L200, L201, L202, L203, L204, L205, L255, L400, L410, L1000, L2665, L2870, L9999, L10000, L100000, L1000000, le_nI, lt_nI, eq_nI, oob_nI, cl_nI, sub_nI, add_nI, mul_nI, b2i_t2, b2i_f2, n10, n01, em1, em2, lm1, lm2, lm3, lm4, if_true, if_false, Option.bind_some, Nat.add_zero, Bool.false_eq_true, not_true, not_false_eq_true, h1, h2]) e FU 0 (-1) (fu_lt (by omega)) (by omega)
  rw [itr_lf, lf_ld] at h
  exact h
/-! the reference -/
theorem X5_cell {z c : Nat} : f_X5_cell (nI z) (nI c) = some (nI (35 * z + (5 + c))) := by
  unfold f_X5_cell
  simp (disch := omega) only [↓Lm1, L0, L1, L2, L3, L4, L5, L6, L7, L8, L9, L10, L11, L12, L14, L15, L16, L20, L21, L29, L30, L31, L32, L35, L45, L48, L50, L60, L68, L97, L99, L100, L101, L102, L112, L115, L116, L119, L120, L128, L140, L156, L196, L197, L198, L199, L200, L201, L202, L203, L204, L205, L255, L400, L410, L1000, L2665, L2870, L9999, L10000, L100000, L1000000, le_nI, lt_nI, eq_nI, oob_nI, cl_nI, sub_nI, add_nI, mul_nI, b2i_t2, b2i_f2, n10, n01, em1, em2, lm1, lm2, lm3, lm4, if_true, if_false, Option.bind_some, Nat.add_zero, Bool.false_eq_true, not_true, not_false_eq_true]
  rw [Nat.add_assoc]
theorem X5_frozen {r : Row} {z c : Nat} (hz : z < 4) (hc : c < 30) : f_X5_frozen r (nI z) (nI c) = some (b2i (fR r z c)) := by
  unfold f_X5_frozen
  rw [X5_cell, Option.bind_some, if_neg (by rw [oob_nI (by omega)]; omega), cl_nI (by omega)]
  unfold fR b2i
  by_cases h : r (35 * z + (5 + c)) ≤ 0
  · rw [if_pos h]
    simp [Int32.not_lt.mpr h]
  · rw [if_neg h]
    simp [Int32.not_le.mp h]
theorem X5_cells {r : Row} {z : Nat} (hz : z < 4) : f_X5_cells r (nI z) = some (nI (cf (fR r z) 0 30)) := by
  have h := loop_itr (fun n a k => fl_X5_cells r (nI z) n (nI a) (nI k)) (fun k a => a + (if fR r z k then 1 else 0)) (fun a => some (nI a)) 30 (fun n a => by
      show fb_X5_cells_1 r (nI z) (fl_X5_cells r (nI z) n) (nI a) (nI 30) = _
      unfold fb_X5_cells_1
      rw [if_pos (by decide)]) (fun n a k hk => by
      have h2 : ¬ 30 ≤ k := by omega
      show fb_X5_cells_1 r (nI z) (fl_X5_cells r (nI z) n) (nI a) (nI k) = _
      unfold fb_X5_cells_1
      rw [X5_frozen hz (by omega)]
      cases fR r z k <;> simp (disch := omega) only [↓Lm1, L0, L1, L2, L3, L4, L5, L6, L7, L8, L9, L10, L11, L12, L14, L15, L16, L20, L21, L29, L30, L31, L32, L35, L45, L48, L50, L60, L68, L97, L99, L100, L101, L102, L112, L115, L116, L119, L120, L128, L140, L156, L196, L197, L198, L199, L200, L201, L202, L203, L204, L205, L255, L400, L410, L1000, L2665, L2870, L9999, L10000, L100000, L1000000, le_nI, lt_nI, eq_nI, oob_nI, cl_nI, sub_nI, add_nI, mul_nI, b2i_t2, b2i_f2, n10, n01, em1, em2, lm1, lm2, lm3, lm4, if_true, if_false, Option.bind_some, Nat.add_zero, Bool.false_eq_true, not_true, not_false_eq_true, h2]) 30 FU 0 0 (fu_lt (by omega)) (by omega)
  rw [itr_cf, Nat.zero_add] at h
  exact h
theorem X5_begins {r : Row} {z c : Nat} (hz : z < 4) (hc : c < 30) : f_X5_begins r (nI z) (nI c) = some (b2i (bgn (fR r z) c)) := by
  unfold f_X5_begins
  rw [X5_frozen hz hc, Option.bind_some]
  unfold bgn
  cases hp : fR r z c with
  | false => simp [b2i]
  | true =>
    rw [b2i_t, if_neg i10]
    by_cases h0 : c = 0
    · subst h0
      rw [if_pos (show nI 0 = 0 from rfl)]
      simp [b2i]
    · obtain ⟨d, rfl⟩ : ∃ d, c = d + 1 := ⟨c - 1, by omega⟩
      have e : nI (d + 1) - 1 = nI d := nI_m1 d
      rw [if_neg (nI_ne0 (by omega) (by omega)), e, X5_frozen hz (by omega), Option.bind_some]
      cases hq : fR r z d <;> simp [b2i, hq]
theorem X5_countLayers {r : Row} {z : Nat} (hz : z < 4) : f_X5_countLayers r (nI z) = some (nI (cf (bgn (fR r z)) 0 30)) := by
  have h := loop_itr (fun n a k => fl_X5_countLayers r (nI z) n (nI a) (nI k)) (fun k a => a + (if bgn (fR r z) k then 1 else 0)) (fun a => some (nI a)) 30 (fun n a => by
      show fb_X5_countLayers_1 r (nI z) (fl_X5_countLayers r (nI z) n) (nI a) (nI 30) = _
      unfold fb_X5_countLayers_1
      rw [if_pos (by decide)]) (fun n a k hk => by
      have h2 : ¬ 30 ≤ k := by omega
      show fb_X5_countLayers_1 r (nI z) (fl_X5_countLayers r (nI z) n) (nI a) (nI k) = _
      unfold fb_X5_countLayers_1
      rw [X5_begins hz (by omega)]
      cases bgn (fR r z) k <;> simp (disch := omega) only [↓Lm1, L0, L1, L2, L3, L4, L5, L6, L7, L8, L9, L10, L11, L12, L14, L15, L16, L20, L21, L29, L30, L31, L32, L35, L45, L48, L50, L60, L68, L97, L99, L100, L101, L102, L112, L115, L116, L119, L120, L128, L140, L156, L196, L197, L198, L199, L200, L201, L202, L203, L204, L205, L255, L400, L410, L1000, L2665, L2870, L9999, L10000, L100000, L1000000, le_nI, lt_nI, eq_nI, oob_nI, cl_nI, sub_nI, add_nI, mul_nI, b2i_t2, b2i_f2, n10, n01, em1, em2, lm1, lm2, lm3, lm4, if_true, if_false, Option.bind_some, Nat.add_zero, Bool.false_eq_true, not_true, not_false_eq_true, h2]) 30 FU 0 0 (fu_lt (by omega)) (by omega)
  rw [itr_cf, Nat.zero_add] at h
  exact h
theorem X5_lowest_l {r : Row} {z : Nat} (hz : z < 4) : ∀ m n, m < n → m ≤ 30 → fl_X5_lowest r (nI z) n (nI m - 1) = some (ld (fR r z) m)
  | 0, n + 1, _, _ => by
    show fb_X5_lowest_1 r (nI z) (fl_X5_lowest r (nI z) n) (nI 0 - 1) = _
    unfold fb_X5_lowest_1
    rw [if_pos (by decide)]
    rfl
  | m + 1, n + 1, hn, hm => by
    have ih := X5_lowest_l (r := r) hz m n (by omega) (by omega)
    have e : nI (m + 1) - 1 = nI m := nI_m1 m
    rw [e]
    show fb_X5_lowest_1 r (nI z) (fl_X5_lowest r (nI z) n) (nI m) = _
    unfold fb_X5_lowest_1
    have e2 : nI m + (-1) = nI m - 1 := by rw [Int32.sub_eq_add_neg]
    rw [if_neg (nneg_nI (by omega)), X5_frozen hz (by omega), Option.bind_some, e2, ih]
    show _ = some (if fR r z m = true then nI m else ld (fR r z) m)
    cases fR r z m <;> simp [b2i]
theorem X5_lowest {r : Row} {z : Nat} (hz : z < 4) : f_X5_lowest r (nI z) = some (ld (fR r z) 30) := by
  have h := X5_lowest_l (r := r) hz 30 FU (fu_lt (by omega)) (by omega)
  have e : nI 30 - 1 = 29 := rfl
  rw [e] at h
  exact h
