/-! what would be: goneIn, reachedIn, bestFence, heaveIn -/
theorem rel_tr1 {μ ν : Mem} {x : Row} (h : Rel μ ν) : Rel (va_up μ 1 x) ν := by
  unfold Rel at h ⊢
  rw [mu_off μ _ (by omega : (0 : Nat) ≠ 1), mu_off μ _ (by omega : (2 : Nat) ≠ 1), mu_off μ _ (by omega : (20 : Nat) ≠ 1), mu_off μ _ (by omega : (21 : Nat) ≠ 1), mu_off μ _ (by omega : (19 : Nat) ≠ 1)]
  have e1 : (fun i => va_up μ 1 x (3 + i)) = fun i => μ (3 + i) := funext fun i => mu_off μ _ (by omega)
  have e2 : (fun i => va_up μ 1 x (17 + i)) = fun i => μ (17 + i) := funext fun i => mu_off μ _ (by omega)
  rw [e1, e2]
  exact h
theorem rel_tr2 {μ ν : Mem} {x : Row} (h : Rel μ ν) (hx : Zr x) : Rel μ (va_up ν 2 x) := by
  unfold Rel at h ⊢
  rw [mu_off ν _ (by omega : (0 : Nat) ≠ 2), mu_off ν _ (by omega : (1 : Nat) ≠ 2), mu_off ν _ (by omega : (3 : Nat) ≠ 2), mu_off ν _ (by omega : (4 : Nat) ≠ 2), mu_off ν _ (by omega : (5 : Nat) ≠ 2), mu_off ν _ (by omega : (6 : Nat) ≠ 2), mu_off ν _ (by omega : (7 : Nat) ≠ 2), mu_at]
  exact ⟨h.1, hx, h.2.2.1, h.2.2.2⟩
theorem rel_tr {μ ν : Mem} {x y : Row} (h : Rel μ ν) (hy : Zr y) : Rel (va_up μ 1 x) (va_up ν 2 y) := rel_tr2 (rel_tr1 h) hy
/-- both sides left the call -/
theorem c_no {μ ν : Mem} {X : Option (Nat × Int32 × Mem)} {Y : Option (Int32 × Mem)} {cs : List Nat} {k i : Nat} {v : Int32} (h : Rel μ ν) (hi : cs[i]? = some k) (hX : X = some (k, v, μ)) (hY : Y = some (0, rf ν (nI (i + 1)))) : Call cs X Y :=
  ⟨k, v, μ, 0, _, hX, hY, Or.inr ⟨i, hi, rf_0⟩, rel_rf h⟩
theorem c_ok {μ ν : Mem} {X : Option (Nat × Int32 × Mem)} {Y : Option (Int32 × Mem)} {cs : List Nat} {v : Int32} {x y : Row} (h : Rel μ ν) (hy : Zr y) (hX : X = some (0, v, va_up μ 1 x)) (hY : Y = some (v, va_up (rf ν 0) 2 y)) : Call cs X Y :=
  ⟨0, v, _, v, _, hX, hY, Or.inl ⟨rfl, by rw [mu_off _ _ (by omega)]; exact rf_0, rfl⟩, rel_tr (rel_rf h) hy⟩
theorem gd_mono {D E d : Nat} {r : Row} (h : gd D d r) (hE : D ≤ E) (hE2 : E < 100000) : gd E d r := ⟨inv_mono h.1 hE, h.2.1, by have := h.2.2.1; omega, hE2⟩
theorem cf_ld (p : Nat → Bool) : ∀ m, m ≤ 30 → (cf p 0 m = 0 ↔ ld p m = -1)
  | 0, _ => ⟨fun _ => rfl, fun _ => rfl⟩
  | m + 1, hm => by
    rw [cf_last, Nat.zero_add]
    unfold ld
    by_cases h : p m = true
    · rw [if_pos h, if_pos h]
      exact ⟨fun h => by omega, fun h => absurd h (m1_ne (by omega))⟩
    · rw [if_neg h, if_neg h]
      exact cf_ld p m (by omega)
theorem cells_ld {r : Row} {s : Nat} : nI (cf (fR r s) 0 30) = 0 ↔ ld (fR r s) 30 = -1 := by
  have h1 := cf_le (fR r s) 30 0
  rw [show (0 : Int32) = nI 0 from rfl, eq_nI (by omega) (by omega)]
  exact cf_ld _ 30 (by omega)
theorem fR_agf {s : Nat} {r r' : Row} (h : Ag s r r') (m : Nat) (hm : m ≤ 30) : ld (fR r s) m = ld (fR r' s) m := ld_congr m fun j hj => fR_ag h (by omega)
theorem cf_agf {s : Nat} {r r' : Row} (h : Ag s r r') : cf (fR r s) 0 30 = cf (fR r' s) 0 30 := cf_congr 30 0 fun j _ hj => fR_ag h (by omega)
def FD : Nat := 20000
theorem at1 {s d : Nat} {t : Int32} {r : Row} (hs : s < 4) (h : gd FD d r) (hd : d < 15000) (ht : dg t) : f_X0_passDaysAt (enc r) (nI s) t 0 1 = some (enc (S_ds (upd r 199 (r 199 + 1)) s t 0)) := X0_passDaysAt (D := FD) (w' := 0) (n := 1) hs h (by unfold FD; omega) ht (by omega) (by omega)
theorem gone_l {s a2' : Nat} {t : Int32} (hs4 : s < 4) (ht : dg t) (μ ν : Mem) : ∀ m k n n' d (R R' : Row), k + m = 401 → m < n → m < n' → d + m < 15000 → s < sc R → Ag s R R' → gd FD d R → gd FD d R' →
    ∃ v Q Q', fl_X4_goneIn (nI s) t n (va_up μ 1 (enc R')) (nI k) = some (0, v, va_up μ 1 Q') ∧ fl_X5_goneIn (nI s) t n' 2 (va_up ν 2 R) 0 (nI k) = some (v, va_up ν 2 Q) ∧ Zr Q
  | 0, k, n + 1, n' + 1, d, R, R', hk, _, _, _, hs, ha, h1, h2 => by
    have e : k = 401 := by omega
    subst e
    refine ⟨-1, R, enc R', ?_, ?_, gd_Z h1⟩
    · show fb_X4_goneIn_1 (nI s) t (fl_X4_goneIn (nI s) t n) _ (nI 401) = _
      unfold fb_X4_goneIn_1
      rw [if_pos (by decide)]
    · show fb_X5_goneIn_2 (nI s) t (fl_X5_goneIn (nI s) t n') _ 0 (nI 401) = _
      unfold fb_X5_goneIn_2
      rw [if_pos (by decide)]
  | m + 1, k, n + 1, n' + 1, d, R, R', hk, hn, hn', hd, hs, ha, h1, h2 => by
    have hk4 : ¬ (400 : Int32) < nI k := fun x => by rw [show (400 : Int32) = nI 400 from rfl, lt_nI (by omega) (by omega)] at x; omega
    have e1 : nI k + 1 = nI (k + 1) := add_nI k 1
    have hX : fl_X4_goneIn (nI s) t (n + 1) (va_up μ 1 (enc R')) (nI k) = if ld (fR R' s) 30 = -1 then some (0, nI k, va_up μ 1 (enc R')) else fl_X4_goneIn (nI s) t n (va_up μ 1 (enc (S_ds (upd R' 199 (R' 199 + 1)) s t 0))) (nI (k + 1)) := by
      show fb_X4_goneIn_1 (nI s) t (fl_X4_goneIn (nI s) t n) _ (nI k) = _
      unfold fb_X4_goneIn_1
      rw [if_neg hk4, mu_at, cl_nI (by omega), show (30 : Int32) = nI 30 from rfl, E2_lowestWithin hs4 (by omega), Option.bind_some, at1 hs4 h2 (by omega) ht, Option.bind_some, mu_two, e1]
    have hY : fl_X5_goneIn (nI s) t (n' + 1) 2 (va_up ν 2 R) 0 (nI k) = if nI (cf (fR R s) 0 30) = 0 then some (nI k, va_up ν 2 R) else fl_X5_goneIn (nI s) t n' 2 (va_up ν 2 (S_day R t 0)) 0 (nI (k + 1)) := by
      show fb_X5_goneIn_2 (nI s) t (fl_X5_goneIn (nI s) t n') _ 0 (nI k) = _
      unfold fb_X5_goneIn_2
      have hdy : f_X5_day R t 0 = some (S_day R t 0) := X5_day (D := FD) (w' := 0) h1 (by unfold FD; omega) ht (by omega)
      rw [if_neg hk4, mu_at, X5_cells hs4, Option.bind_some, hdy, Option.bind_some, mu_two, e1]
    rw [hX, hY]
    have hc : nI (cf (fR R s) 0 30) = 0 ↔ ld (fR R' s) 30 = -1 := by rw [cells_ld, fR_agf ha 30 (by omega)]
    by_cases h : ld (fR R' s) 30 = -1
    · rw [if_pos h, if_pos (hc.mpr h)]
      exact ⟨_, _, _, rfl, rfl, gd_Z h1⟩
    · rw [if_neg h, if_neg (fun x => h (hc.mp x))]
      exact gone_l (a2' := a2') hs4 ht μ ν m (k + 1) n n' (d + 1) _ _ (by omega) (by omega) (by omega) (by omega) (by rw [sc_day]; exact hs) (day_ag hs ha) (gd_day (w' := 0) h1 (by unfold FD; omega) ht (by omega)) (gd_ds (w' := 0) (gd_inc h2 (by unfold FD; omega)) hs4 ht (by omega))
theorem dg_pos {t : Int32} (h : (1 : Int32) ≤ t ∧ t ≤ 30) : dg t := by
  obtain ⟨u, h1, h2⟩ := rng_nI (n := 30) (by omega) ⟨Int32.le_trans (by decide) h.1, h.2⟩
  exact Or.inl ⟨u, h1, h2⟩
theorem dg_neg {t : Int32} (h : (-30 : Int32) ≤ t ∧ t ≤ -1) : dg t := dg_of ⟨h.1, Int32.le_trans h.2 (by decide)⟩
theorem zr_rf {ν : Mem} {a : Int32} (h : Zr (ν 2)) : Zr (rf ν a 2) := by rw [rf_o (by omega)]; exact h
theorem cp5 {μ ν : Mem} (h : Rel μ ν) : f_X5_copy (rf ν 0 2) (rf ν 0 1) = some (ν 1) := by
  obtain ⟨d, hg⟩ := h.1.2
  rw [rf_o (by omega), rf_o (by omega)]
  exact X5_copy (gd_Z hg) h.2.1
theorem call_goneIn {μ ν : Mem} (a1 a2 : Int32) (h : Rel μ ν) : Call [3, 1] (f_X4_goneIn μ a1 a2) (f_X5_goneIn ν a1 a2) := by
  obtain ⟨d, hg⟩ := h.1.2
  have hn := h.1.1
  obtain ⟨m, hm, hm4⟩ := inv_196 hg.1
  unfold f_X4_goneIn f_X5_goneIn
  rcases in_cases a1 m (by omega) with ⟨s, hs, rfl⟩ | hx
  · rw [X4_needSite_y hn hm hm4 hs, X5_isSite_y hm hm4 hs, Option.bind_some, Option.bind_some, if_pos rfl, if_neg i10]
    by_cases hr : (1 : Int32) ≤ a2 ∧ a2 ≤ 30
    · rw [X4_needRange_y hr, X5_in_y hr (by decide) (by decide), Option.bind_some, Option.bind_some, if_pos rfl, if_neg i10, X0_copyFrom, Option.bind_some, if_neg (by rw [oob_nI (by omega)]; omega)]
      have hd9 := hg.2.2.1
      have hG := gd_mono hg (show 9999 ≤ FD by unfold FD; omega) (by unfold FD; omega)
      have hsc : s < sc (ν 1) := by rw [sc_of hm hm4]; exact hs
      obtain ⟨v, Q, Q', h1, h2, h3⟩ := gone_l (a2' := 0) (by omega : s < 4) (dg_pos hr) μ (rf ν 0) 401 0 FU 999999999 d (ν 1) (ν 1) (by omega) (fu_lt (by omega)) (by omega) (by omega) hsc (ag_refl s _) hG hG
      refine c_ok h h3 (by rw [hn]; exact h1) ?_
      show fb_X5_goneIn_1 (nI s) a2 (fl_X5_goneIn (nI s) a2 999999999) ν 0 0 = _
      unfold fb_X5_goneIn_1
      rw [ref_ok, cp5 h, Option.bind_some]
      exact h2
    · rw [X4_needRange_n hr, X5_in_n hr (by decide) (by decide), Option.bind_some, Option.bind_some, if_neg (by decide), if_pos rfl]
      refine c_no (i := 1) h rfl rfl ?_
      show fb_X5_goneIn_1 (nI s) a2 (fl_X5_goneIn (nI s) a2 999999999) ν 2 0 = _
      exact ref_no (t := 2) (by decide) _
  · rw [X4_needSite_n hn hm hx, X5_isSite_n hm hm4 hx, Option.bind_some, Option.bind_some, if_neg (by decide), if_pos rfl]
    refine c_no (i := 0) h rfl rfl ?_
    show fb_X5_goneIn_1 a1 a2 (fl_X5_goneIn a1 a2 999999999) ν 1 0 = _
    exact ref_no (t := 1) (by decide) _
theorem reach_l {s c : Nat} {t : Int32} (hs4 : s < 4) (hc : c < 30) (ht : dg t) (μ ν : Mem) : ∀ m k n n' d (R R' : Row), k + m = 401 → m < n → m < n' → d + m < 15000 → s < sc R → Ag s R R' → gd FD d R → gd FD d R' →
    ∃ v Q Q', fl_X4_reachedIn (nI s) (nI c) t n (va_up μ 1 (enc R')) (nI k) = some (0, v, va_up μ 1 Q') ∧ fl_X5_reachedIn (nI s) (nI c) t n' 3 (va_up ν 2 R) 0 (nI k) = some (v, va_up ν 2 Q) ∧ Zr Q
  | 0, k, n + 1, n' + 1, d, R, R', hk, _, _, _, hs, ha, h1, h2 => by
    have e : k = 401 := by omega
    subst e
    refine ⟨-1, R, enc R', ?_, ?_, gd_Z h1⟩
    · show fb_X4_reachedIn_1 (nI s) (nI c) t (fl_X4_reachedIn (nI s) (nI c) t n) _ (nI 401) = _
      unfold fb_X4_reachedIn_1
      rw [if_pos (by decide)]
    · show fb_X5_reachedIn_3 (nI s) (nI c) t (fl_X5_reachedIn (nI s) (nI c) t n') _ 0 (nI 401) = _
      unfold fb_X5_reachedIn_3
      rw [if_pos (by decide)]
  | m + 1, k, n + 1, n' + 1, d, R, R', hk, hn, hn', hd, hs, ha, h1, h2 => by
    have hk4 : ¬ (400 : Int32) < nI k := fun x => by rw [show (400 : Int32) = nI 400 from rfl, lt_nI (by omega) (by omega)] at x; omega
    have e1 : nI k + 1 = nI (k + 1) := add_nI k 1
    have hX : fl_X4_reachedIn (nI s) (nI c) t (n + 1) (va_up μ 1 (enc R')) (nI k) = if b2i (fR R' s c) = 0 then fl_X4_reachedIn (nI s) (nI c) t n (va_up μ 1 (enc (S_ds (upd R' 199 (R' 199 + 1)) s t 0))) (nI (k + 1)) else some (0, nI k, va_up μ 1 (enc R')) := by
      show fb_X4_reachedIn_1 (nI s) (nI c) t (fl_X4_reachedIn (nI s) (nI c) t n) _ (nI k) = _
      unfold fb_X4_reachedIn_1
      rw [if_neg hk4, mu_at, cl_nI (by omega), E2_isFrozen hs4 hc, Option.bind_some, at1 hs4 h2 (by omega) ht, Option.bind_some, mu_two, e1]
    have hY : fl_X5_reachedIn (nI s) (nI c) t (n' + 1) 3 (va_up ν 2 R) 0 (nI k) = if b2i (fR R' s c) = 0 then fl_X5_reachedIn (nI s) (nI c) t n' 3 (va_up ν 2 (S_day R t 0)) 0 (nI (k + 1)) else some (nI k, va_up ν 2 R) := by
      show fb_X5_reachedIn_3 (nI s) (nI c) t (fl_X5_reachedIn (nI s) (nI c) t n') _ 0 (nI k) = _
      unfold fb_X5_reachedIn_3
      have hdy : f_X5_day R t 0 = some (S_day R t 0) := X5_day (D := FD) (w' := 0) h1 (by unfold FD; omega) ht (by omega)
      rw [if_neg hk4, mu_at, X5_frozen hs4 hc, Option.bind_some, hdy, Option.bind_some, mu_two, e1, fR_ag ha hc]
    rw [hX, hY]
    by_cases h : b2i (fR R' s c) = 0
    · rw [if_pos h, if_pos h]
      exact reach_l hs4 hc ht μ ν m (k + 1) n n' (d + 1) _ _ (by omega) (by omega) (by omega) (by omega) (by rw [sc_day]; exact hs) (day_ag hs ha) (gd_day (w' := 0) h1 (by unfold FD; omega) ht (by omega)) (gd_ds (w' := 0) (gd_inc h2 (by unfold FD; omega)) hs4 ht (by omega))
    · rw [if_neg h, if_neg h]
      exact ⟨_, _, _, rfl, rfl, gd_Z h1⟩
theorem fl_reach2 {a1 a2 a3 : Int32} {ν : Mem} {t : Int32} : fl_X5_reachedIn a1 a2 a3 FU 1 ν t 0 = if t = 0 then fl_X5_reachedIn a1 a2 a3 999999999 2 ν 1 0 else ((f_X5_in a3.toInt64 (-30 : Int64) (-1 : Int64)).bind fun r8 => (if r8 = 0 then fl_X5_reachedIn a1 a2 a3 999999999 2 ν 2 0 else fl_X5_reachedIn a1 a2 a3 999999999 2 ν 0 0)) := rfl
theorem call_reachedIn {μ ν : Mem} (a1 a2 a3 : Int32) (h : Rel μ ν) : Call [3, 1] (f_X4_reachedIn μ a1 a2 a3) (f_X5_reachedIn ν a1 a2 a3) := by
  obtain ⟨d, hg⟩ := h.1.2
  have hn := h.1.1
  obtain ⟨m, hm, hm4⟩ := inv_196 hg.1
  unfold f_X4_reachedIn f_X5_reachedIn
  rcases in_cases a1 m (by omega) with ⟨s, hs, rfl⟩ | hx
  · rw [X4_needSite_y hn hm hm4 hs, X5_isSite_y hm hm4 hs, Option.bind_some, Option.bind_some, if_pos rfl, if_neg i10]
    rcases in_cases a2 30 (by omega) with ⟨c, hc, rfl⟩ | hx
    · rw [X4_needCell_y hc, X5_isCell_y hc, Option.bind_some, Option.bind_some, if_pos rfl, if_neg i10, fl_reach2, if_neg i10]
      by_cases hr : (-30 : Int32) ≤ a3 ∧ a3 ≤ -1
      · rw [X4_needRange_y hr, X5_in_y hr (by decide) (by decide), Option.bind_some, Option.bind_some, if_pos rfl, if_neg i10, X0_copyFrom, Option.bind_some, if_neg (by rw [oob_nI (by omega)]; omega)]
        have hd9 := hg.2.2.1
        have hG := gd_mono hg (show 9999 ≤ FD by unfold FD; omega) (by unfold FD; omega)
        have hsc : s < sc (ν 1) := by rw [sc_of hm hm4]; exact hs
        obtain ⟨v, Q, Q', h1, h2, h3⟩ := reach_l (by omega : s < 4) hc (dg_neg hr) μ (rf ν 0) 401 0 FU 999999998 d (ν 1) (ν 1) (by omega) (fu_lt (by omega)) (by omega) (by omega) hsc (ag_refl s _) hG hG
        refine c_ok h h3 (by rw [hn]; exact h1) ?_
        show fb_X5_reachedIn_2 (nI s) (nI c) a3 (fl_X5_reachedIn (nI s) (nI c) a3 999999998) ν 0 0 = _
        unfold fb_X5_reachedIn_2
        rw [ref_ok, cp5 h, Option.bind_some]
        exact h2
      · rw [X4_needRange_n hr, X5_in_n hr (by decide) (by decide), Option.bind_some, Option.bind_some, if_neg (by decide), if_pos rfl]
        refine c_no (i := 1) h rfl rfl ?_
        show fb_X5_reachedIn_2 (nI s) (nI c) a3 (fl_X5_reachedIn (nI s) (nI c) a3 999999998) ν 2 0 = _
        exact ref_no (t := 2) (by decide) _
    · rw [X4_needCell_n hx, X5_isCell_n hx, Option.bind_some, Option.bind_some, if_neg (by decide), if_pos rfl, fl_reach2, if_pos rfl]
      refine c_no (i := 0) h rfl rfl ?_
      show fb_X5_reachedIn_2 (nI s) a2 a3 (fl_X5_reachedIn (nI s) a2 a3 999999998) ν 1 0 = _
      exact ref_no (t := 1) (by decide) _
  · rw [X4_needSite_n hn hm hx, X5_isSite_n hm hm4 hx, Option.bind_some, Option.bind_some, if_neg (by decide), if_pos rfl, fl_reach2, if_pos rfl]
    refine c_no (i := 0) h rfl rfl ?_
    show fb_X5_reachedIn_2 a1 a2 a3 (fl_X5_reachedIn a1 a2 a3 999999998) ν 1 0 = _
    exact ref_no (t := 1) (by decide) _
