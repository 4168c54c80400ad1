/-! days over all sites -/
def sc (r : Row) : Nat := min 4 (r 196).toNatClampNeg
def S_day (r : Row) (t w : Int32) : Row := itr (fun s r => S_ds r s t w) 0 (sc r) (upd r 199 (r 199 + 1))
def S_go (r : Row) (t w : Int32) (n : Nat) : Row := itr (fun _ r => S_day r t w) 0 n r
def S_at (r : Row) (s : Nat) (t w : Int32) (n : Nat) : Row := itr (fun _ r => S_ds (upd r 199 (r 199 + 1)) s t w) 0 n r
def ac (r : Row) : Nat := sf (fun s => cf (fR r s) 0 30) 0 (sc r)
def al (r : Row) : Nat := sf (fun s => cf (bgn (fR r s)) 0 30) 0 (sc r)
theorem sc_le (r : Row) : sc r ≤ 4 := Nat.min_le_left _ _
theorem sc_of {r : Row} {m : Nat} (h : r 196 = nI m) (hm : m ≤ 4) : sc r = m := by
  unfold sc
  rw [h, cl_nI (by omega)]
  omega
theorem fzl_hi {z k : Nat} (hz : z < 4) (hk : 196 ≤ k) : ∀ m c r, c + m ≤ 30 → fzl z c m r k = r k
  | 0, _, _, _ => rfl
  | m + 1, c, r, hc => by
    show (if r (35 * z + 2) < nI (4 + c) then r else fzl z (c + 1) m (if fR r z c then r else fz1 r z c)) k = r k
    split
    · rfl
    · rw [fzl_hi hz hk m (c + 1) _ (by omega)]
      split
      · rfl
      · exact fz1_hi hz (by omega) hk
theorem thl_hi {z k : Nat} (hz : z < 4) (hk : 196 ≤ k) : ∀ m c r, c + m ≤ 30 → thl z c m r k = r k
  | 0, _, _, _ => rfl
  | m + 1, c, r, hc => by
    show (if r (35 * z + 3) < nI (3 + c) then r else thl z (c + 1) m (if fR r z c then th1 r z c else r)) k = r k
    split
    · rfl
    · rw [thl_hi hz hk m (c + 1) _ (by omega)]
      split
      · exact th1_hi hz (by omega) hk
      · rfl
theorem ls_hi {z k : Nat} {r : Row} (hz : z < 4) (hk : 196 ≤ k) : S_ls r z k = r k := by
  unfold S_ls
  split
  · rfl
  · split
    · rcases ld_or (fR r z) 30 with ⟨h3, _⟩ | ⟨c, hc, h3, _⟩
      · rw [if_pos h3]
      · rw [h3, if_neg (m1_ne (by omega)), cl_nI (by omega), th_off (Or.inr (Or.inl hk)) (by omega)]
    · rfl
theorem ds_hi {r : Row} {z k : Nat} {t w : Int32} (hz : z < 4) (hk : 196 ≤ k) : S_ds r z t w k = r k := by
  unfold S_ds
  rw [ls_hi hz hk, thl_hi hz hk 30 0 _ (by omega), fzl_hi hz hk 30 0 _ (by omega), S_wt_hi hz (by omega)]
/-- a good row with d days gone -/
def gd (D d : Nat) (r : Row) : Prop := Inv D r ∧ r 199 = nI d ∧ d ≤ D ∧ D < 100000
theorem gd_pos {D d : Nat} {r : Row} (h : gd D (d + 1) r) : 0 < r 199 := by
  rw [h.2.1, show (0 : Int32) = nI 0 from rfl, lt_nI (by omega) (by have := h.2.2; omega)]
  omega
theorem gd_inc {D d : Nat} {r : Row} (h : gd D d r) (hd : d + 1 ≤ D) : gd D (d + 1) (upd r 199 (r 199 + 1)) := by
  have := h.2.2.2
  have e : r 199 + 1 = nI (d + 1) := by rw [h.2.1]; exact add_nI d 1
  rw [e]
  exact ⟨inv_199u h.1 h.2.1 hd (by omega), pk_us, hd, this⟩
theorem gd_ds {D d z w' : Nat} {t : Int32} {r : Row} (h : gd D d r) (hz : z < 4) (ht : dg t) (hw : w' ≤ 30) : gd D d (S_ds r z t (nI w')) := by
  have := h.2.2.2
  exact ⟨inv_ds h.1 (by omega) hz ht hw, by rw [ds_hi hz (by omega)]; exact h.2.1, h.2.2⟩
theorem gd_dk {D d : Nat} {r : Row} (h : gd D (d + 1) r) : ∃ pm, dk r pm := inv_dk h.1 (gd_pos h)
theorem X5_ds {D d z w' : Nat} {t : Int32} {r : Row} (h : gd D (d + 1) r) (hz : z < 4) (ht : dg t) (hw : w' ≤ 30) : f_X5_daySite r (nI z) t (nI w') = some (S_ds r z t (nI w')) := by
  obtain ⟨pm, hk⟩ := gd_dk h
  exact X5_daySite hz hk (inv_sw h.1 hz) (inv_rt h.1) ht hw
theorem X0_ds {D d z w' : Nat} {t : Int32} {r : Row} (h : gd D (d + 1) r) (hz : z < 4) (ht : dg t) (hw : w' ≤ 30) : f_X0_passDay (enc r) (nI z) t (nI w') = some (enc (S_ds r z t (nI w'))) := by
  obtain ⟨pm, hk⟩ := gd_dk h
  exact X0_passDay hz hk (inv_sw h.1 hz) (inv_rt h.1) ht hw
theorem gd_day {D d w' : Nat} {t : Int32} {r : Row} (h : gd D d r) (hd : d + 1 ≤ D) (ht : dg t) (hw : w' ≤ 30) : gd D (d + 1) (S_day r t (nI w')) := by
  have := sc_le r
  exact itr_rng (fun s => gd D (d + 1) s) (sc r) 0 _ (fun j s _ h2 h3 => gd_ds h3 (by omega) ht hw) (gd_inc h hd)
theorem day_hi {r : Row} {k : Nat} {t w : Int32} (hk : 196 ≤ k) (h9 : k ≠ 199) : S_day r t w k = r k := by
  have := sc_le r
  exact itr_rng (fun s : Row => s k = r k) (sc r) 0 _ (fun j s _ h2 h3 => by rw [ds_hi (by omega) hk]; exact h3) (by rw [pk_un h9])
theorem X5_day {D d w' : Nat} {t : Int32} {r : Row} (h : gd D d r) (hd : d + 1 ≤ D) (ht : dg t) (hw : w' ≤ 30) : f_X5_day r t (nI w') = some (S_day r t (nI w')) := by
  obtain ⟨a, ha, ha4⟩ := inv_196 h.1
  have hl := loop_itrI (fun s : Row => gd D (d + 1) s ∧ s 196 = nI a) (fun n s k => fl_X5_day t (nI w') n s (nI k)) (fun s r => S_ds r s t (nI w')) (fun s => some s) a
    (fun k s hk hs => ⟨gd_ds hs.1 (by omega) ht hw, by rw [ds_hi (by omega) (by omega)]; exact hs.2⟩)
    (fun n s hs => by
      show fb_X5_day_1 t (nI w') (fl_X5_day t (nI w') n) s (nI a) = _
      unfold fb_X5_day_1
      simp (maxSteps := 2000000) (disch := omega) only [↓Lm1, L0, L1, L2, L3, L4, L5, L6, L7, L8, L9, L10, L11, L12, L14, L15, L16, L20, L21, L29, L30, L31, L32, L35, L45, L48, L50, L60, L68, L97, L99, L100, L101, L102, L112, L115, L116, L119, L120, L128, L140, L156, L196, L197, L198, L199, L200, L201, L202, L203, L204, L205, L255, L400, L410, L1000, L2665, L2870, L9999, L10000, L100000, L1000000, le_nI, lt_nI, eq_nI, oob_nI, cl_nI, sub_nI, add_nI, mul_nI, b2i_t2, b2i_f2, n10, n01, em1, em2, lm1, lm2, lm3, lm4, if_true, if_false, Option.bind_some, Nat.add_zero, Bool.false_eq_true, not_true, not_false_eq_true, hs.2, Nat.le_refl])
    (fun n s k hk hs => by
      have hak : ¬ a ≤ k := by omega
      show fb_X5_day_1 t (nI w') (fl_X5_day t (nI w') n) s (nI k) = _
      unfold fb_X5_day_1
      rw [X5_ds hs.1 (by omega) ht hw]
      simp (maxSteps := 2000000) (disch := omega) only [↓Lm1, L0, L1, L2, L3, L4, L5, L6, L7, L8, L9, L10, L11, L12, L14, L15, L16, L20, L21, L29, L30, L31, L32, L35, L45, L48, L50, L60, L68, L97, L99, L100, L101, L102, L112, L115, L116, L119, L120, L128, L140, L156, L196, L197, L198, L199, L200, L201, L202, L203, L204, L205, L255, L400, L410, L1000, L2665, L2870, L9999, L10000, L100000, L1000000, le_nI, lt_nI, eq_nI, oob_nI, cl_nI, sub_nI, add_nI, mul_nI, b2i_t2, b2i_f2, n10, n01, em1, em2, lm1, lm2, lm3, lm4, if_true, if_false, Option.bind_some, Nat.add_zero, Bool.false_eq_true, not_true, not_false_eq_true, hs.2, hak]) a FU 0 (upd r 199 (r 199 + 1)) ⟨gd_inc h hd, by rw [pk_un (by omega)]; exact ha⟩ (fu_lt (by omega)) (by omega)
  unfold f_X5_day S_day
  rw [sc_of ha ha4]
  exact hl
theorem X5_allCells {D : Nat} {r : Row} (h : Inv D r) : f_X5_allCells r = some (nI (ac r)) := by
  obtain ⟨a, ha, ha4⟩ := inv_196 h
  have hl := loop_itr (fun n v k => fl_X5_allCells r n (nI v) (nI k)) (fun k v => v + cf (fR r k) 0 30) (fun v => some (nI v)) a
    (fun n v => by
      show fb_X5_allCells_1 r (fl_X5_allCells r n) (nI v) (nI a) = _
      unfold fb_X5_allCells_1
      simp (maxSteps := 2000000) (disch := omega) only [↓Lm1, L0, L1, L2, L3, L4, L5, L6, L7, L8, L9, L10, L11, L12, L14, L15, L16, L20, L21, L29, L30, L31, L32, L35, L45, L48, L50, L60, L68, L97, L99, L100, L101, L102, L112, L115, L116, L119, L120, L128, L140, L156, L196, L197, L198, L199, L200, L201, L202, L203, L204, L205, L255, L400, L410, L1000, L2665, L2870, L9999, L10000, L100000, L1000000, le_nI, lt_nI, eq_nI, oob_nI, cl_nI, sub_nI, add_nI, mul_nI, b2i_t2, b2i_f2, n10, n01, em1, em2, lm1, lm2, lm3, lm4, if_true, if_false, Option.bind_some, Nat.add_zero, Bool.false_eq_true, not_true, not_false_eq_true, ha, Nat.le_refl])
    (fun n v k hk => by
      have hak : ¬ a ≤ k := by omega
      show fb_X5_allCells_1 r (fl_X5_allCells r n) (nI v) (nI k) = _
      unfold fb_X5_allCells_1
      rw [X5_cells (by omega)]
      simp (maxSteps := 2000000) (disch := omega) only [↓Lm1, L0, L1, L2, L3, L4, L5, L6, L7, L8, L9, L10, L11, L12, L14, L15, L16, L20, L21, L29, L30, L31, L32, L35, L45, L48, L50, L60, L68, L97, L99, L100, L101, L102, L112, L115, L116, L119, L120, L128, L140, L156, L196, L197, L198, L199, L200, L201, L202, L203, L204, L205, L255, L400, L410, L1000, L2665, L2870, L9999, L10000, L100000, L1000000, le_nI, lt_nI, eq_nI, oob_nI, cl_nI, sub_nI, add_nI, mul_nI, b2i_t2, b2i_f2, n10, n01, em1, em2, lm1, lm2, lm3, lm4, if_true, if_false, Option.bind_some, Nat.add_zero, Bool.false_eq_true, not_true, not_false_eq_true, ha, hak]) a FU 0 0 (fu_lt (by omega)) (by omega)
  rw [itr_sf (fun s => cf (fR r s) 0 30), Nat.zero_add] at hl
  unfold ac
  rw [sc_of ha ha4]
  exact hl
theorem X5_allLayers {D : Nat} {r : Row} (h : Inv D r) : f_X5_allLayers r = some (nI (al r)) := by
  obtain ⟨a, ha, ha4⟩ := inv_196 h
  have hl := loop_itr (fun n v k => fl_X5_allLayers r n (nI v) (nI k)) (fun k v => v + cf (bgn (fR r k)) 0 30) (fun v => some (nI v)) a
    (fun n v => by
      show fb_X5_allLayers_1 r (fl_X5_allLayers r n) (nI v) (nI a) = _
      unfold fb_X5_allLayers_1
      simp (maxSteps := 2000000) (disch := omega) only [↓Lm1, L0, L1, L2, L3, L4, L5, L6, L7, L8, L9, L10, L11, L12, L14, L15, L16, L20, L21, L29, L30, L31, L32, L35, L45, L48, L50, L60, L68, L97, L99, L100, L101, L102, L112, L115, L116, L119, L120, L128, L140, L156, L196, L197, L198, L199, L200, L201, L202, L203, L204, L205, L255, L400, L410, L1000, L2665, L2870, L9999, L10000, L100000, L1000000, le_nI, lt_nI, eq_nI, oob_nI, cl_nI, sub_nI, add_nI, mul_nI, b2i_t2, b2i_f2, n10, n01, em1, em2, lm1, lm2, lm3, lm4, if_true, if_false, Option.bind_some, Nat.add_zero, Bool.false_eq_true, not_true, not_false_eq_true, ha, Nat.le_refl])
    (fun n v k hk => by
      have hak : ¬ a ≤ k := by omega
      show fb_X5_allLayers_1 r (fl_X5_allLayers r n) (nI v) (nI k) = _
      unfold fb_X5_allLayers_1
      rw [X5_countLayers (by omega)]
      simp (maxSteps := 2000000) (disch := omega) only [↓Lm1, L0, L1, L2, L3, L4, L5, L6, L7, L8, L9, L10, L11, L12, L14, L15, L16, L20, L21, L29, L30, L31, L32, L35, L45, L48, L50, L60, L68, L97, L99, L100, L101, L102, L112, L115, L116, L119, L120, L128, L140, L156, L196, L197, L198, L199, L200, L201, L202, L203, L204, L205, L255, L400, L410, L1000, L2665, L2870, L9999, L10000, L100000, L1000000, le_nI, lt_nI, eq_nI, oob_nI, cl_nI, sub_nI, add_nI, mul_nI, b2i_t2, b2i_f2, n10, n01, em1, em2, lm1, lm2, lm3, lm4, if_true, if_false, Option.bind_some, Nat.add_zero, Bool.false_eq_true, not_true, not_false_eq_true, ha, hak]) a FU 0 0 (fu_lt (by omega)) (by omega)
  rw [itr_sf (fun s => cf (bgn (fR r s)) 0 30), Nat.zero_add] at hl
  unfold al
  rw [sc_of ha ha4]
  exact hl
theorem X0_frozenCells {D : Nat} {r : Row} (h : Inv D r) : f_X0_frozenCells (enc r) = some (nI (ac r)) := by
  obtain ⟨a, ha, ha4⟩ := inv_196 h
  have hl := loop_itr (fun n v k => fl_X0_frozenCells (enc r) n (nI v) (nI k)) (fun k v => v + cf (fR r k) 0 30) (fun v => some (nI v)) a
    (fun n v => by
      show fb_X0_frozenCells_1 (enc r) (fl_X0_frozenCells (enc r) n) (nI v) (nI a) = _
      unfold fb_X0_frozenCells_1
      simp (maxSteps := 2000000) (disch := omega) only [↓Lm1, L0, L1, L2, L3, L4, L5, L6, L7, L8, L9, L10, L11, L12, L14, L15, L16, L20, L21, L29, L30, L31, L32, L35, L45, L48, L50, L60, L68, L97, L99, L100, L101, L102, L112, L115, L116, L119, L120, L128, L140, L156, L196, L197, L198, L199, L200, L201, L202, L203, L204, L205, L255, L400, L410, L1000, L2665, L2870, L9999, L10000, L100000, L1000000, le_nI, lt_nI, eq_nI, oob_nI, cl_nI, sub_nI, add_nI, mul_nI, b2i_t2, b2i_f2, n10, n01, em1, em2, lm1, lm2, lm3, lm4, if_true, if_false, Option.bind_some, Nat.add_zero, Bool.false_eq_true, not_true, not_false_eq_true, enc_hi, ha, Nat.le_refl])
    (fun n v k hk => by
      have hak : ¬ a ≤ k := by omega
      have hk4 : ¬ 4 ≤ k := by omega
      show fb_X0_frozenCells_1 (enc r) (fl_X0_frozenCells (enc r) n) (nI v) (nI k) = _
      unfold fb_X0_frozenCells_1
      simp (maxSteps := 2000000) (disch := omega) only [↓Lm1, L0, L1, L2, L3, L4, L5, L6, L7, L8, L9, L10, L11, L12, L14, L15, L16, L20, L21, L29, L30, L31, L32, L35, L45, L48, L50, L60, L68, L97, L99, L100, L101, L102, L112, L115, L116, L119, L120, L128, L140, L156, L196, L197, L198, L199, L200, L201, L202, L203, L204, L205, L255, L400, L410, L1000, L2665, L2870, L9999, L10000, L100000, L1000000, le_nI, lt_nI, eq_nI, oob_nI, cl_nI, sub_nI, add_nI, mul_nI, b2i_t2, b2i_f2, n10, n01, em1, em2, lm1, lm2, lm3, lm4, if_true, if_false, Option.bind_some, Nat.add_zero, Bool.false_eq_true, not_true, not_false_eq_true, enc_hi, ha, hak, hk4, E2_frozenWithin]) a FU 0 0 (fu_lt (by omega)) (by omega)
  rw [itr_sf (fun s => cf (fR r s) 0 30), Nat.zero_add] at hl
  unfold ac
  rw [sc_of ha ha4]
  exact hl
theorem X0_layersOfAll {D : Nat} {r : Row} (h : Inv D r) : f_X0_layersOfAll (enc r) = some (nI (al r)) := by
  obtain ⟨a, ha, ha4⟩ := inv_196 h
  have hl := loop_itr (fun n v k => fl_X0_layersOfAll (enc r) n (nI v) (nI k)) (fun k v => v + cf (bgn (fR r k)) 0 30) (fun v => some (nI v)) a
    (fun n v => by
      show fb_X0_layersOfAll_1 (enc r) (fl_X0_layersOfAll (enc r) n) (nI v) (nI a) = _
      unfold fb_X0_layersOfAll_1
      simp (maxSteps := 2000000) (disch := omega) only [↓Lm1, L0, L1, L2, L3, L4, L5, L6, L7, L8, L9, L10, L11, L12, L14, L15, L16, L20, L21, L29, L30, L31, L32, L35, L45, L48, L50, L60, L68, L97, L99, L100, L101, L102, L112, L115, L116, L119, L120, L128, L140, L156, L196, L197, L198, L199, L200, L201, L202, L203, L204, L205, L255, L400, L410, L1000, L2665, L2870, L9999, L10000, L100000, L1000000, le_nI, lt_nI, eq_nI, oob_nI, cl_nI, sub_nI, add_nI, mul_nI, b2i_t2, b2i_f2, n10, n01, em1, em2, lm1, lm2, lm3, lm4, if_true, if_false, Option.bind_some, Nat.add_zero, Bool.false_eq_true, not_true, not_false_eq_true, enc_hi, ha, Nat.le_refl])
    (fun n v k hk => by
      have hak : ¬ a ≤ k := by omega
      have hk4 : ¬ 4 ≤ k := by omega
      show fb_X0_layersOfAll_1 (enc r) (fl_X0_layersOfAll (enc r) n) (nI v) (nI k) = _
      unfold fb_X0_layersOfAll_1
      simp (maxSteps := 2000000) (disch := omega) only [↓Lm1, L0, L1, L2, L3, L4, L5, L6, L7, L8, L9, L10, L11, L12, L14, L15, L16, L20, L21, L29, L30, L31, L32, L35, L45, L48, L50, L60, L68, L97, L99, L100, L101, L102, L112, L115, L116, L119, L120, L128, L140, L156, L196, L197, L198, L199, L200, L201, L202, L203, L204, L205, L255, L400, L410, L1000, L2665, L2870, L9999, L10000, L100000, L1000000, le_nI, lt_nI, eq_nI, oob_nI, cl_nI, sub_nI, add_nI, mul_nI, b2i_t2, b2i_f2, n10, n01, em1, em2, lm1, lm2, lm3, lm4, if_true, if_false, Option.bind_some, Nat.add_zero, Bool.false_eq_true, not_true, not_false_eq_true, enc_hi, ha, hak, hk4, E2_layersWithin]) a FU 0 0 (fu_lt (by omega)) (by omega)
  rw [itr_sf (fun s => cf (bgn (fR r s)) 0 30), Nat.zero_add] at hl
  unfold al
  rw [sc_of ha ha4]
  exact hl
theorem ac_le (r : Row) : ac r ≤ 120 := by
  have h1 := sf_le (f := fun s => cf (fR r s) 0 30) (B := 30) (fun k => cf_le _ 30 0) (sc r) 0
  have h2 := sc_le r
  have h3 : sc r * 30 ≤ 4 * 30 := Nat.mul_le_mul h2 (Nat.le_refl 30)
  exact Nat.le_trans h1 h3
theorem al_le (r : Row) : al r ≤ 120 := by
  have h1 := sf_le (f := fun s => cf (bgn (fR r s)) 0 30) (B := 30) (fun k => cf_le _ 30 0) (sc r) 0
  have h2 := sc_le r
  have h3 : sc r * 30 ≤ 4 * 30 := Nat.mul_le_mul h2 (Nat.le_refl 30)
  exact Nat.le_trans h1 h3
theorem gd_go {D w' : Nat} {t : Int32} (ht : dg t) (hw : w' ≤ 30) : ∀ n k d (r : Row), gd D d r → d + n ≤ D → gd D (d + n) (itr (fun _ r => S_day r t (nI w')) k n r)
  | 0, _, _, _, h, _ => h
  | n + 1, k, d, r, h, hd => by
    have := gd_go (D := D) ht hw n (k + 1) (d + 1) _ (gd_day h (by omega) ht hw) (by omega)
    rw [show d + 1 + n = d + (n + 1) by omega] at this
    exact this
theorem X5_go_l {D w' N : Nat} {t : Int32} (ht : dg t) (hw : w' ≤ 30) (hN : N ≤ 1000) : ∀ m n k d (r : Row), m < n → k + m = N → gd D d r → d + m ≤ D → fl_X5_goDays t (nI w') (nI N) n r (nI k) = some (nI (ac (itr (fun _ r => S_day r t (nI w')) k m r)), itr (fun _ r => S_day r t (nI w')) k m r)
  | 0, n + 1, k, d, r, _, hk, h, _ => by
    have e : k = N := by omega
    subst e
    show fb_X5_goDays_1 t (nI w') (nI k) (fl_X5_goDays t (nI w') (nI k) n) r (nI k) = _
    unfold fb_X5_goDays_1
    rw [if_pos ((le_nI (by omega) (by omega)).mpr (Nat.le_refl k)), X5_allCells h.1, Option.bind_some]
    rfl
  | m + 1, n + 1, k, d, r, hn, hk, h, hd => by
    have ih := X5_go_l (D := D) ht hw hN m n (k + 1) (d + 1) _ (by omega) (by omega) (gd_day h (by omega) ht hw) (by omega)
    have e1 : nI k + 1 = nI (k + 1) := add_nI k 1
    have hkN : ¬ N ≤ k := by omega
    show fb_X5_goDays_1 t (nI w') (nI N) (fl_X5_goDays t (nI w') (nI N) n) r (nI k) = _
    unfold fb_X5_goDays_1
    rw [if_neg (fun x => hkN ((le_nI (by omega) (by omega)).mp x)), X5_day h (by omega) ht hw, Option.bind_some, e1, ih]
    rfl
theorem X5_goDays {D d w' n : Nat} {t : Int32} {r : Row} (h : gd D d r) (hd : d + n ≤ D) (ht : dg t) (hw : w' ≤ 30) (hn : n ≤ 1000) : f_X5_goDays r t (nI w') (nI n) = some (nI (ac (S_go r t (nI w') n)), S_go r t (nI w') n) :=
  X5_go_l ht hw hn n FU 0 d r (fu_lt (by omega)) (by omega) h hd
theorem X0_day_l {D d a n w' : Nat} {t : Int32} {a3 v4 : Int32} (ha4 : a ≤ 4) (ht : dg t) (hw : w' ≤ 30) : ∀ m k (r : Row), k + m = a → gd D (d + 1) r → r 196 = nI a → fl_X0_passDays t (nI w') a3 (n + m + 1) 2 (enc r) v4 (nI k) = fl_X0_passDays t (nI w') a3 n 1 (enc (itr (fun s r => S_ds r s t (nI w')) k m r)) (v4 + 1) 0
  | 0, k, r, hk, h, h6 => by
    have e : k = a := by omega
    subst e
    show fb_X0_passDays_2 t (nI w') a3 (fl_X0_passDays t (nI w') a3 n) (enc r) v4 (nI k) = _
    unfold fb_X0_passDays_2
    rw [enc_hi (by omega), h6, if_pos ((le_nI (by omega) (by omega)).mpr (Nat.le_refl k))]
    rfl
  | m + 1, k, r, hk, h, h6 => by
    have ih := X0_day_l (a3 := a3) (v4 := v4) (n := n) ha4 ht hw m (k + 1) _ (by omega) (gd_ds (z := k) h (by omega) ht hw) (by rw [ds_hi (by omega) (by omega)]; exact h6)
    have e1 : nI k + 1 = nI (k + 1) := add_nI k 1
    have hkN : ¬ a ≤ k := by omega
    show fb_X0_passDays_2 t (nI w') a3 (fl_X0_passDays t (nI w') a3 (n + m + 1)) (enc r) v4 (nI k) = _
    unfold fb_X0_passDays_2
    rw [enc_hi (by omega), h6, if_neg (fun x => hkN ((le_nI (by omega) (by omega)).mp x)), X0_ds h (by omega) ht hw, Option.bind_some, e1, ih]
    rfl
theorem X0_go_l {D w' N : Nat} {t : Int32} (ht : dg t) (hw : w' ≤ 30) (hN : N ≤ 1000) (hD : D < 100000) : ∀ m n k d (r : Row), 10 * m < n → k + m = N → gd D d r → d + m ≤ D → fl_X0_passDays t (nI w') (nI N) n 1 (enc r) (nI k) 0 = some (nI (ac (itr (fun _ r => S_day r t (nI w')) k m r)), enc (itr (fun _ r => S_day r t (nI w')) k m r))
  | 0, n + 1, k, d, r, _, hk, h, _ => by
    have e : k = N := by omega
    subst e
    show fb_X0_passDays_1 t (nI w') (nI k) (fl_X0_passDays t (nI w') (nI k) n) (enc r) (nI k) 0 = _
    unfold fb_X0_passDays_1
    rw [if_pos ((le_nI (by omega) (by omega)).mpr (Nat.le_refl k)), X0_frozenCells h.1, Option.bind_some]
    rfl
  | m + 1, n + 1, k, d, r, hn, hk, h, hd => by
    obtain ⟨a, ha, ha4⟩ := inv_196 h.1
    obtain ⟨n', rfl⟩ : ∃ n', n = n' + a + 1 := ⟨n - a - 1, by omega⟩
    have ih := X0_go_l (D := D) ht hw hN hD m n' (k + 1) (d + 1) _ (by omega) (by omega) (gd_day h (by omega) ht hw) (by omega)
    have e1 : nI k + 1 = nI (k + 1) := add_nI k 1
    have hkN : ¬ N ≤ k := by omega
    have hi := gd_inc h (by omega : d + 1 ≤ D)
    have hl := X0_day_l (a3 := nI N) (v4 := nI k) (n := n') (d := d) ha4 ht hw a 0 (upd r 199 (r 199 + 1)) (by omega) hi (by rw [pk_un (by omega)]; exact ha)
    show fb_X0_passDays_1 t (nI w') (nI N) (fl_X0_passDays t (nI w') (nI N) (n' + a + 1)) (enc r) (nI k) 0 = _
    unfold fb_X0_passDays_1
    rw [if_neg (fun x => hkN ((le_nI (by omega) (by omega)).mp x)), enc_hi (by omega), enc_uph (by omega), show (0 : Int32) = nI 0 from rfl, hl, e1]
    have es : itr (fun s r => S_ds r s t (nI w')) 0 a (upd r 199 (r 199 + 1)) = S_day r t (nI w') := by
      unfold S_day
      rw [sc_of ha ha4]
    rw [es]
    exact ih
theorem X0_passDays {D d w' n : Nat} {t : Int32} {r : Row} (h : gd D d r) (hd : d + n ≤ D) (ht : dg t) (hw : w' ≤ 30) (hn : n ≤ 1000) : f_X0_passDays (enc r) t (nI w') (nI n) = some (nI (ac (S_go r t (nI w') n)), enc (S_go r t (nI w') n)) :=
  X0_go_l ht hw hn h.2.2.2 n FU 0 d r (fu_lt (by omega)) (by omega) h hd
theorem gd_at {D s w' : Nat} {t : Int32} (hs : s < 4) (ht : dg t) (hw : w' ≤ 30) : ∀ n k d (r : Row), gd D d r → d + n ≤ D → gd D (d + n) (itr (fun _ r => S_ds (upd r 199 (r 199 + 1)) s t (nI w')) k n r)
  | 0, _, _, _, h, _ => h
  | n + 1, k, d, r, h, hd => by
    have := gd_at (D := D) hs ht hw n (k + 1) (d + 1) _ (gd_ds (gd_inc h (by omega)) hs ht hw) (by omega)
    rw [show d + 1 + n = d + (n + 1) by omega] at this
    exact this
theorem X0_at_l {D s w' N : Nat} {t : Int32} (hs : s < 4) (ht : dg t) (hw : w' ≤ 30) (hN : N ≤ 1000) : ∀ m n k d (r : Row), m < n → k + m = N → gd D d r → d + m ≤ D → fl_X0_passDaysAt (nI s) t (nI w') (nI N) n (enc r) (nI k) = some (enc (itr (fun _ r => S_ds (upd r 199 (r 199 + 1)) s t (nI w')) k m r))
  | 0, n + 1, k, d, r, _, hk, h, _ => by
    have e : k = N := by omega
    subst e
    show fb_X0_passDaysAt_1 (nI s) t (nI w') (nI k) (fl_X0_passDaysAt (nI s) t (nI w') (nI k) n) (enc r) (nI k) = _
    unfold fb_X0_passDaysAt_1
    rw [if_pos ((le_nI (by omega) (by omega)).mpr (Nat.le_refl k))]
    rfl
  | m + 1, n + 1, k, d, r, hn, hk, h, hd => by
    have hi := gd_inc h (by omega : d + 1 ≤ D)
    have ih := X0_at_l (D := D) hs ht hw hN m n (k + 1) (d + 1) _ (by omega) (by omega) (gd_ds hi hs ht hw) (by omega)
    have e1 : nI k + 1 = nI (k + 1) := add_nI k 1
    have hkN : ¬ N ≤ k := by omega
    show fb_X0_passDaysAt_1 (nI s) t (nI w') (nI N) (fl_X0_passDaysAt (nI s) t (nI w') (nI N) n) (enc r) (nI k) = _
    unfold fb_X0_passDaysAt_1
    rw [if_neg (fun x => hkN ((le_nI (by omega) (by omega)).mp x)), enc_hi (by omega), enc_uph (by omega), X0_ds hi hs ht hw, Option.bind_some, e1, ih]
    rfl
theorem X0_passDaysAt {D d s w' n : Nat} {t : Int32} {r : Row} (hs : s < 4) (h : gd D d r) (hd : d + n ≤ D) (ht : dg t) (hw : w' ≤ 30) (hn : n ≤ 1000) : f_X0_passDaysAt (enc r) (nI s) t (nI w') (nI n) = some (enc (S_at r s t (nI w') n)) :=
  X0_at_l hs ht hw hn n FU 0 d r (fu_lt (by omega)) (by omega) h hd
