/-! follows: what its calls do to one object, with the states behind it -/
def PT (μ : Mem) (Ls : List Row) : Prop := ∃ c f, μ 20 0 = nI c ∧ μ 20 1 = nI f ∧ c ≤ 14 ∧ f < 14 ∧ Ls.length ≤ c ∧ ∀ j g, Ls[j]? = some g → μ (3 + (f + (c - 1 - j)) % 14) = g
theorem pt_push {μ : Mem} {Ls : List Row} (h : PT μ Ls) (hl : Ls.length ≤ 13) : ∃ m, f_X1_remember μ = some m ∧ PT m (μ 0 :: Ls) ∧ ∀ i, (i ≤ 2 ∨ 17 ≤ i) → i ≠ 20 → m i = μ i := by
  obtain ⟨c, f, p0, p1, hc, hf, hlen, hst⟩ := h
  refine ⟨_, X1_remember p0 p1 hc hf, ?_, fun i hi h20 => by rw [mu_off _ _ h20, mu_off _ _ (by omega)]⟩
  by_cases e : c = 14
  · subst e
    rw [if_pos rfl]
    refine ⟨14, (f + 1) % 14, by rw [mu_at, pk_un (by omega), p0], by rw [mu_at, pk_us], by omega, by omega, by rw [List.length_cons]; omega, fun j g hj => ?_⟩
    rw [mu_off _ _ (by omega)]
    cases j with
    | zero =>
      rw [List.getElem?_cons_zero] at hj
      cases hj
      rw [show ((f + 1) % 14 + (14 - 1 - 0)) % 14 = (f + 14) % 14 by omega, mu_at]
    | succ j =>
      rw [List.getElem?_cons_succ] at hj
      have hj2 := (List.getElem?_eq_some_iff.mp hj).1
      rw [show ((f + 1) % 14 + (14 - 1 - (j + 1))) % 14 = (f + (14 - 1 - j)) % 14 by omega, mu_off _ _ (by omega)]
      exact hst j g hj
  · rw [if_neg e]
    refine ⟨c + 1, f, by rw [mu_at, pk_us], by rw [mu_at, pk_un (by omega), p1], by omega, hf, by rw [List.length_cons]; omega, fun j g hj => ?_⟩
    rw [mu_off _ _ (by omega)]
    cases j with
    | zero =>
      rw [List.getElem?_cons_zero] at hj
      cases hj
      rw [show (f + (c + 1 - 1 - 0)) % 14 = (f + c) % 14 by omega, mu_at]
    | succ j =>
      rw [List.getElem?_cons_succ] at hj
      have hj2 := (List.getElem?_eq_some_iff.mp hj).1
      rw [show (f + (c + 1 - 1 - (j + 1))) % 14 = (f + (c - 1 - j)) % 14 by omega, mu_off _ _ (by omega)]
      exact hst j g hj
theorem pt_pop {μ : Mem} {g : Row} {Ls : List Row} (h : PT μ (g :: Ls)) : ∃ v m, f_X4_undo μ = some (0, nI v, m) ∧ v < 14 ∧ m 0 = g ∧ PT m Ls ∧ ∀ i, i ≠ 0 → i ≠ 20 → m i = μ i := by
  obtain ⟨c, f, p0, p1, hc, hf, hlen, hst⟩ := h
  rw [List.length_cons] at hlen
  obtain ⟨c', rfl⟩ : ∃ c', c = c' + 1 := ⟨c - 1, by omega⟩
  have e1 : nI (c' + 1) - 1 = nI c' := nI_m1 c'
  have e2 : nI f + nI c' - (nI f + nI c') / 14 * 14 = nI ((f + c') % 14) := by rw [add_nI]; exact rem14 (by omega)
  have ho : ¬ oob (nI ((f + c') % 14)) 14 := by rw [oob_nI (by omega)]; omega
  have ec : (nI ((f + c') % 14)).toNatClampNeg = (f + c') % 14 := cl_nI (by omega)
  have h0 := hst 0 g rfl
  rw [show c' + 1 - 1 - 0 = c' by omega] at h0
  have hX : f_X4_undo μ = some (0, nI c', va_up (va_up μ 20 (upd (μ 20) 0 (nI c'))) 0 g) := by
    unfold f_X4_undo f_X1_takeBack
    have hp : (0 : Int32) < nI (c' + 1) := by rw [show (0 : Int32) = nI 0 from rfl, lt_nI (by omega) (by omega)]; omega
    have hp2 : ¬ nI (c' + 1) ≤ 0 := Int32.not_le.mpr hp
    have u1 : upd (μ 20) 0 (nI c') 1 = nI f := by rw [pk_un (by omega), p1]
    have u0 : upd (μ 20) 0 (nI c') 0 = nI c' := pk_us
    have g3 : va_up μ 20 (upd (μ 20) 0 (nI c')) (3 + (f + c') % 14) = g := by rw [mu_off _ _ (by omega), h0]
    simp only [p0, hp, if_true, hp2, if_false, e1, mu_at, u1, u0, e2, ho, ec, g3, X0_copyFrom, Option.bind_some, mu_off _ _ (by omega : (20 : Nat) ≠ 0)]
  refine ⟨c', _, hX, by omega, mu_at _ _ _, ⟨c', f, by rw [mu_off _ _ (by omega), mu_at, pk_us], by rw [mu_off _ _ (by omega), mu_at, pk_un (by omega), p1], by omega, hf, by omega, fun j g' hj => ?_⟩, fun i h1 h2 => by rw [mu_off _ _ h1, mu_off _ _ h2]⟩
  have hj2 := (List.getElem?_eq_some_iff.mp hj).1
  rw [mu_off _ _ (by omega), mu_off _ _ (by omega)]
  have := hst (j + 1) g' (by rw [List.getElem?_cons_succ]; exact hj)
  rw [show c' + 1 - 1 - (j + 1) = c' - 1 - j by omega] at this
  exact this
def F9 (μ0 : Mem) (g : Row) (Ls : List Row) (μ : Mem) : Prop := μ 0 = g ∧ PT μ Ls ∧ MJ μ ∧ ∀ i, (i = 2 ∨ i = 17 ∨ i = 18 ∨ i = 19 ∨ i = 21) → μ i = μ0 i
theorem f9_t1 {μ0 μ m : Mem} {g : Row} {Ls : List Row} (h : F9 μ0 g Ls μ) (ht : T1 μ m) : F9 μ0 g Ls m := by
  obtain ⟨h1, ⟨c, f, p0, p1, hc, hf, hlen, hst⟩, h3, h4⟩ := h
  exact ⟨by rw [ht 0 (by omega), h1], ⟨c, f, by rw [ht 20 (by omega), p0], by rw [ht 20 (by omega), p1], hc, hf, hlen, fun j g' hj => by rw [ht _ (by omega)]; exact hst j g' hj⟩, mj_t1 h3 ht, fun i hi => by rw [ht i (by omega)]; exact h4 i hi⟩
/-- an action that is done: the ground is r', the one before it is remembered -/
theorem f9_act {μ0 μ : Mem} {r r' : Row} {Ls : List Row} {code a b c v : Int32} (h : F9 μ0 (enc r) Ls μ) (hl : Ls.length ≤ 13) (h1 : f_X0_faultOf (enc r) code a b c = some 0) (h2 : f_X0_perform (enc r) code a b c = some (v, enc r')) :
    ∃ m, ((f_X4_act μ code a b c).bind fun r1 => if r1.1 = 0 then some (0, r1.2.1, r1.2.2) else some (r1.1, 0, r1.2.2)) = some (0, v, m) ∧ F9 μ0 (enc r') (enc r :: Ls) m := by
  obtain ⟨g1, g2, g3, g4⟩ := h
  obtain ⟨m, e1, e2, e3⟩ := pt_push g2 hl
  have hX : f_X4_act μ code a b c = some (0, v, va_up m 0 (enc r')) := by
    unfold f_X4_act
    rw [g1, h1, Option.bind_some, if_neg (by decide), if_neg (by decide), if_neg (by decide), e1, Option.bind_some, e3 0 (by omega) (by omega), g1, h2, Option.bind_some]
  refine ⟨va_up m 0 (enc r'), wrap0 hX, mu_at _ _ _, ?_, mj_act g3 hX, fun i hi => by rw [mu_off _ _ (by omega), e3 i (by omega) (by omega)]; exact g4 i hi⟩
  rw [g1] at e2
  obtain ⟨c', f, p0, p1, hc, hf, hlen, hst⟩ := e2
  exact ⟨c', f, by rw [mu_off _ _ (by omega), p0], by rw [mu_off _ _ (by omega), p1], hc, hf, hlen, fun j g hj => by rw [mu_off _ _ (by omega)]; exact hst j g hj⟩
theorem f9_days {μ0 μ : Mem} {r : Row} {Ls : List Row} {d w' n' : Nat} {t : Int32} (h : F9 μ0 (enc r) Ls μ) (hl : Ls.length ≤ 13) (hg : gd 9999 d r) (h1 : (-30 : Int32) ≤ t ∧ t ≤ 30) (hw' : w' ≤ 30) (hn1 : 1 ≤ n') (hn' : n' ≤ 60) (hc : d + n' ≤ 9999) :
    ∃ m, f_L_days μ t (nI w') (nI n') = some (nL (ac (S_go r t (nI w') n')), m) ∧ F9 μ0 (enc (S_go r t (nI w') n')) (enc r :: Ls) m := by
  obtain ⟨⟨v, r', q1, q2, q3, _, _⟩, hY, _⟩ := days_ok hg h1 hw' hn1 hn' hc
  rw [hY] at q3
  have e := Option.some.inj q3
  injection e with e1 e2
  subst e1 e2
  obtain ⟨m, m1, m2⟩ := f9_act h hl q1 q2
  have hac := ac_le (S_go r t (nI w') n')
  refine ⟨m, ?_, m2⟩
  unfold f_L_days
  rw [show f_X4_days μ t (nI w') (nI n') = _ from m1, Option.bind_some, if_pos rfl, nI_L (by omega)]
theorem f9_fence {μ0 μ : Mem} {r : Row} {Ls : List Row} {d m z k : Nat} (h : F9 μ0 (enc r) Ls μ) (hl : Ls.length ≤ 13) (hg : gd 9999 d r) (hm : r 196 = nI m) (hm4 : m ≤ 4) (hz : z < m) (hk : k ≤ 20) :
    ∃ q, f_L_fence μ (nI z) (nI k) = some ((r (35 * z + 1)).toInt64, q) ∧ F9 μ0 (enc (bfr r z k)) (enc r :: Ls) q := by
  rcases fence_cases (nI z) (nI k) hg with ⟨_, h2⟩ | ⟨_, _, h2⟩ | ⟨hd, _, _⟩
  · rw [X5_isSite_y hm hm4 hz] at h2
    exact absurd (Option.some.inj h2) (by decide)
  · refine absurd ⟨nI_pos' (by omega), ?_⟩ h2
    rw [show (20 : Int32) = nI 20 from rfl, le_nI (by omega) (by omega)]
    exact hk
  · obtain ⟨v, r', q1, q2, q3, _, _⟩ := hd
    rw [X5_put_at (k := 35 * z + 1) (by rw [show (35 : Int32) = nI 35 from rfl, show (1 : Int32) = nI 1 from rfl, mul_nI, add_nI]) (by omega)] at q3
    have e := Option.some.inj q3
    injection e with e1 e2
    subst e1 e2
    obtain ⟨q, m1, m2⟩ := f9_act h hl q1 q2
    refine ⟨q, ?_, m2⟩
    unfold f_L_fence
    rw [show f_X4_fence μ (nI z) (nI k) = _ from m1]
    rfl
theorem f9_undo {μ0 μ : Mem} {g g' : Row} {Ls : List Row} (h : F9 μ0 g (g' :: Ls) μ) : ∃ v m, f_L_undo μ = some (nL v, m) ∧ v < 14 ∧ F9 μ0 g' Ls m := by
  obtain ⟨h1, h2, h3, h4⟩ := h
  have h2' := h2
  obtain ⟨v, m, e1, e2, e3, e4, e5⟩ := pt_pop h2
  obtain ⟨c, f, p0, p1, hc, hf, _⟩ := h2'
  refine ⟨v, m, ?_, e2, e3, e4, mj_undo h3 p0 p1 hc hf e1, fun i hi => by rw [e5 i (by omega) (by omega)]; exact h4 i hi⟩
  unfold f_L_undo
  rw [e1, Option.bind_some, if_pos rfl, nI_L (by omega)]
/-! what would be -/
theorem itr_out {g : Row → Row} : ∀ m k (s : Row), itr (fun _ => g) k (m + 1) s = g (itr (fun _ => g) k m s)
  | 0, _, _ => rfl
  | m + 1, k, s => itr_out m (k + 1) (g s)
theorem go_succ (r : Row) (t w : Int32) (n : Nat) : S_go r t w (n + 1) = S_day (S_go r t w n) t w := itr_out n 0 r
theorem go_sc {t w : Int32} : ∀ n (r : Row), sc (S_go r t w n) = sc r
  | 0, _ => rfl
  | n + 1, r => by rw [go_succ, sc_day, go_sc n r]
theorem gone_x {s : Nat} {t : Int32} {r : Row} (hs4 : s < 4) (ht : dg t) (hsr : s < sc r) (μ : Mem) : ∀ m k n d (R' : Row), k + m = 401 → m < n → d + m < 15000 → Ag s (S_go r t 0 k) R' → gd FD d R' →
    ∃ v Q', fl_X4_goneIn (nI s) t n (va_up μ 1 (enc R')) (nI k) = some (0, v, va_up μ 1 Q') ∧ (v = -1 ∨ ∃ e, k ≤ e ∧ e ≤ 400 ∧ v = nI e ∧ cf (fR (S_go r t 0 e) s) 0 30 = 0 ∧ ∀ j, k ≤ j → j < e → 0 < cf (fR (S_go r t 0 j) s) 0 30)
  | 0, k, n + 1, d, R', hk, _, _, ha, h2 => by
    have e : k = 401 := by omega
    subst e
    refine ⟨-1, enc R', ?_, Or.inl rfl⟩
    show fb_X4_goneIn_1 (nI s) t (fl_X4_goneIn (nI s) t n) _ (nI 401) = _
    unfold fb_X4_goneIn_1
    rw [if_pos (by decide)]
  | m + 1, k, n + 1, d, R', hk, hn, hd, ha, h2 => by
    have hk4 : ¬ (400 : Int32) < nI k := fun x => by rw [show (400 : Int32) = nI 400 from rfl, lt_nI (by omega) (by omega)] at x; omega
    have e1 : nI k + 1 = nI (k + 1) := add_nI k 1
    have hX : fl_X4_goneIn (nI s) t (n + 1) (va_up μ 1 (enc R')) (nI k) = if ld (fR R' s) 30 = -1 then some (0, nI k, va_up μ 1 (enc R')) else fl_X4_goneIn (nI s) t n (va_up μ 1 (enc (S_ds (upd R' 199 (R' 199 + 1)) s t 0))) (nI (k + 1)) := by
      show fb_X4_goneIn_1 (nI s) t (fl_X4_goneIn (nI s) t n) _ (nI k) = _
      unfold fb_X4_goneIn_1
      rw [if_neg hk4, mu_at, cl_nI (by omega), show (30 : Int32) = nI 30 from rfl, E2_lowestWithin hs4 (by omega), Option.bind_some, at1 hs4 h2 (by omega) ht, Option.bind_some, mu_two, e1]
    have hc : cf (fR (S_go r t 0 k) s) 0 30 = 0 ↔ ld (fR R' s) 30 = -1 := by rw [cf_ld (fR (S_go r t 0 k) s) 30 (by omega), fR_agf ha 30 (by omega)]
    rw [hX]
    by_cases h : ld (fR R' s) 30 = -1
    · rw [if_pos h]
      exact ⟨_, _, rfl, Or.inr ⟨k, Nat.le_refl k, by omega, rfl, hc.mpr h, fun j h1 h2 => by omega⟩⟩
    · rw [if_neg h]
      obtain ⟨v, Q', r1, r2⟩ := gone_x hs4 ht hsr μ m (k + 1) n (d + 1) _ (by omega) (by omega) (by omega) (by rw [go_succ]; exact day_ag (by rw [go_sc]; exact hsr) ha) (gd_ds (w' := 0) (gd_inc h2 (by unfold FD; omega)) hs4 ht (by omega))
      refine ⟨v, Q', r1, ?_⟩
      rcases r2 with r2 | ⟨e, f1, f2, f3, f4, f5⟩
      · exact Or.inl r2
      · refine Or.inr ⟨e, by omega, f2, f3, f4, fun j j1 j2 => ?_⟩
        by_cases ej : j = k
        · subst ej
          have := mt hc.mp h
          omega
        · exact f5 j (by omega) j2
theorem f9_gone {μ0 μ : Mem} {r : Row} {Ls : List Row} {d m s t : Nat} (h : F9 μ0 (enc r) Ls μ) (hg : gd 9999 d r) (hm : r 196 = nI m) (hm4 : m ≤ 4) (hs : s < m) (ht1 : 1 ≤ t) (ht : t ≤ 30) :
    ∃ w q, f_L_goneIn μ (nI s) (nI t) = some (w, q) ∧ F9 μ0 (enc r) Ls q ∧ (w = -1 ∨ ∃ e, e ≤ 400 ∧ w = nL e ∧ cf (fR (S_go r (nI t) 0 e) s) 0 30 = 0 ∧ ∀ j, j < e → 0 < cf (fR (S_go r (nI t) 0 j) s) 0 30) := by
  have hr : (1 : Int32) ≤ nI t ∧ nI t ≤ 30 := ⟨by rw [show (1 : Int32) = nI 1 from rfl, le_nI (by omega) (by omega)]; exact ht1, by rw [show (30 : Int32) = nI 30 from rfl, le_nI (by omega) (by omega)]; exact ht⟩
  have hd9 := hg.2.2.1
  have hG := gd_mono hg (show 9999 ≤ FD by unfold FD; omega) (by unfold FD; omega)
  obtain ⟨v, Q', h1, h2⟩ := gone_x (r := r) (by omega : s < 4) (dg_pos hr) (by rw [sc_of hm hm4]; exact hs) μ 401 0 FU d r (by omega) (fu_lt (by omega)) (by omega) (ag_refl s _) hG
  have hX : f_X4_goneIn μ (nI s) (nI t) = some (0, v, va_up μ 1 Q') := by
    unfold f_X4_goneIn
    rw [X4_needSite_y (ν := cR r) h.1 hm hm4 hs, Option.bind_some, if_pos rfl, X4_needRange_y hr, Option.bind_some, if_pos rfl, X0_copyFrom, Option.bind_some, if_neg (by rw [oob_nI (by omega)]; omega), h.1]
    exact h1
  refine ⟨v.toInt64, va_up μ 1 Q', ?_, f9_t1 h (t1_up (t1_rf μ)), ?_⟩
  · unfold f_L_goneIn
    rw [hX]
    rfl
  · rcases h2 with rfl | ⟨e, _, f2, rfl, f4, f5⟩
    · exact Or.inl m1_L
    · exact Or.inr ⟨e, f2, nI_L (by omega), f4, fun j hj => f5 j (Nat.zero_le j) hj⟩
theorem reach_x {s c : Nat} {t : Int32} {r : Row} (hs4 : s < 4) (hc30 : c < 30) (ht : dg t) (hsr : s < sc r) (μ : Mem) : ∀ m k n d (R' : Row), k + m = 401 → m < n → d + m < 15000 → Ag s (S_go r t 0 k) R' → gd FD d R' →
    ∃ v Q', fl_X4_reachedIn (nI s) (nI c) t n (va_up μ 1 (enc R')) (nI k) = some (0, v, va_up μ 1 Q') ∧ (v = -1 ∨ ∃ e, k ≤ e ∧ e ≤ 400 ∧ v = nI e ∧ fR (S_go r t 0 e) s c = true ∧ ∀ j, k ≤ j → j < e → fR (S_go r t 0 j) s c = false)
  | 0, k, n + 1, d, R', hk, _, _, ha, h2 => by
    have e : k = 401 := by omega
    subst e
    refine ⟨-1, enc R', ?_, Or.inl rfl⟩
    show fb_X4_reachedIn_1 (nI s) (nI c) t (fl_X4_reachedIn (nI s) (nI c) t n) _ (nI 401) = _
    unfold fb_X4_reachedIn_1
    rw [if_pos (by decide)]
  | m + 1, k, n + 1, d, R', hk, hn, hd, ha, h2 => by
    have hk4 : ¬ (400 : Int32) < nI k := fun x => by rw [show (400 : Int32) = nI 400 from rfl, lt_nI (by omega) (by omega)] at x; omega
    have e1 : nI k + 1 = nI (k + 1) := add_nI k 1
    have hX : fl_X4_reachedIn (nI s) (nI c) t (n + 1) (va_up μ 1 (enc R')) (nI k) = if b2i (fR R' s c) = 0 then fl_X4_reachedIn (nI s) (nI c) t n (va_up μ 1 (enc (S_ds (upd R' 199 (R' 199 + 1)) s t 0))) (nI (k + 1)) else some (0, nI k, va_up μ 1 (enc R')) := by
      show fb_X4_reachedIn_1 (nI s) (nI c) t (fl_X4_reachedIn (nI s) (nI c) t n) _ (nI k) = _
      unfold fb_X4_reachedIn_1
      rw [if_neg hk4, mu_at, cl_nI (by omega), E2_isFrozen hs4 hc30, Option.bind_some, at1 hs4 h2 (by omega) ht, Option.bind_some, mu_two, e1]
    have hc : fR (S_go r t 0 k) s c = fR R' s c := fR_ag ha hc30
    rw [hX]
    cases h : fR R' s c with
    | true =>
      rw [if_neg (by decide)]
      exact ⟨_, _, rfl, Or.inr ⟨k, Nat.le_refl k, by omega, rfl, hc.trans h, fun j h1 h2 => by omega⟩⟩
    | false =>
      rw [if_pos (by decide)]
      obtain ⟨v, Q', r1, r2⟩ := reach_x hs4 hc30 ht hsr μ m (k + 1) n (d + 1) _ (by omega) (by omega) (by omega) (by rw [go_succ]; exact day_ag (by rw [go_sc]; exact hsr) ha) (gd_ds (w' := 0) (gd_inc h2 (by unfold FD; omega)) hs4 ht (by omega))
      refine ⟨v, Q', r1, ?_⟩
      rcases r2 with r2 | ⟨e, f1, f2, f3, f4, f5⟩
      · exact Or.inl r2
      · refine Or.inr ⟨e, by omega, f2, f3, f4, fun j j1 j2 => ?_⟩
        by_cases ej : j = k
        · subst ej
          exact hc.trans h
        · exact f5 j (by omega) j2
theorem neg_rng {t : Nat} (ht1 : 1 ≤ t) (ht : t ≤ 30) : (-30 : Int32) ≤ -nI t ∧ -nI t ≤ -1 := by
  have e : (-nI t).toInt = -(t : Int) := by
    have h : -nI t = nI 0 - nI t := (Int32.zero_sub _).symm
    rw [h]
    have := pk_sub_toInt (a := 0) (b := t) (by omega) (by omega)
    rw [this]
    omega
  rw [Int32.le_iff_toInt_le, Int32.le_iff_toInt_le, e]
  have h1 : (-30 : Int32).toInt = -30 := by decide
  have h2 : (-1 : Int32).toInt = -1 := by decide
  omega
theorem f9_reach {μ0 μ : Mem} {r : Row} {Ls : List Row} {d m s c t : Nat} (h : F9 μ0 (enc r) Ls μ) (hg : gd 9999 d r) (hm : r 196 = nI m) (hm4 : m ≤ 4) (hs : s < m) (hc : c < 30) (ht1 : 1 ≤ t) (ht : t ≤ 30) :
    ∃ w q, f_L_reachedIn μ (nI s) (nI c) (-nI t) = some (w, q) ∧ F9 μ0 (enc r) Ls q ∧ (w = -1 ∨ ∃ e, e ≤ 400 ∧ w = nL e ∧ fR (S_go r (-nI t) 0 e) s c = true ∧ ∀ j, j < e → fR (S_go r (-nI t) 0 j) s c = false) := by
  have hr := neg_rng ht1 ht
  have hd9 := hg.2.2.1
  have hG := gd_mono hg (show 9999 ≤ FD by unfold FD; omega) (by unfold FD; omega)
  obtain ⟨v, Q', h1, h2⟩ := reach_x (r := r) (by omega : s < 4) hc (dg_neg hr) (by rw [sc_of hm hm4]; exact hs) μ 401 0 FU d r (by omega) (fu_lt (by omega)) (by omega) (ag_refl s _) hG
  have hX : f_X4_reachedIn μ (nI s) (nI c) (-nI t) = some (0, v, va_up μ 1 Q') := by
    unfold f_X4_reachedIn
    rw [X4_needSite_y (ν := cR r) h.1 hm hm4 hs, Option.bind_some, if_pos rfl, X4_needCell_y hc, Option.bind_some, if_pos rfl, X4_needRange_y hr, Option.bind_some, if_pos rfl, X0_copyFrom, Option.bind_some, if_neg (by rw [oob_nI (by omega)]; omega), h.1]
    exact h1
  refine ⟨v.toInt64, va_up μ 1 Q', ?_, f9_t1 h (t1_up (t1_rf μ)), ?_⟩
  · unfold f_L_reachedIn
    rw [hX]
    rfl
  · rcases h2 with rfl | ⟨e, _, f2, rfl, f4, f5⟩
    · exact Or.inl m1_L
    · exact Or.inr ⟨e, f2, nI_L (by omega), f4, fun j hj => f5 j (Nat.zero_le j) hj⟩
theorem best_x {d s w' n' : Nat} {t : Int32} {μ : Mem} {r : Row} (hμ : μ 0 = enc r) (hs4 : s < 4) (hsc : s < sc r) (hg : gd FD d r) (hd : d + n' ≤ FD) (ht : dg t) (hw : w' ≤ 30) (hn' : n' ≤ 60) : ∀ m k n b f (X : Row), k + m = 21 → m < n → f ≤ 31 →
    (k = 0 ∧ b = 0 ∧ f = 31) ∨ (0 < k ∧ b ≤ 20 ∧ f = bfn r s t (nI w') n' b ∧ f ≤ bfn r s t (nI w') n' 0 ∧ (b = 0 ∨ f < bfn r s t (nI w') n' 0)) →
    ∃ v Q', fl_X4_bestFence (nI s) t (nI w') (nI n') n (va_up μ 1 X) (nI b) (nI f) (nI k) = some (0, nI v, va_up μ 1 Q') ∧ v ≤ 20 ∧ bfn r s t (nI w') n' v ≤ bfn r s t (nI w') n' 0 ∧ (v = 0 ∨ bfn r s t (nI w') n' v < bfn r s t (nI w') n' 0)
  | 0, k, n + 1, b, f, X, hk, _, _, hb => by
    have e : k = 21 := by omega
    subst e
    rcases hb with ⟨h, _⟩ | ⟨_, h1, h2, h3, h4⟩
    · omega
    · refine ⟨b, X, ?_, h1, by rw [← h2]; exact h3, by rw [← h2]; exact h4⟩
      show fb_X4_bestFence_1 (nI s) t (nI w') (nI n') (fl_X4_bestFence (nI s) t (nI w') (nI n') n) _ _ _ (nI 21) = _
      unfold fb_X4_bestFence_1
      rw [if_pos (by decide)]
  | m + 1, k, n + 1, b, f, X, hk, hn, hf, hb => by
    have hle : bfn r s t (nI w') n' k ≤ 30 := cf_le _ _ _
    rw [bf_X hμ hs4 hsc hg hd ht hw hn' (by omega)]
    by_cases h : nI f ≤ nI (bfn r s t (nI w') n' k)
    · rw [if_pos h]
      rw [le_nI (by omega) (by omega)] at h
      refine best_x hμ hs4 hsc hg hd ht hw hn' m (k + 1) n b f _ (by omega) (by omega) hf (Or.inr ?_)
      rcases hb with ⟨_, _, h3⟩ | ⟨_, h1, h2, h3, h4⟩
      · omega
      · exact ⟨by omega, h1, h2, h3, h4⟩
    · rw [if_neg h]
      rw [le_nI (by omega) (by omega)] at h
      refine best_x hμ hs4 hsc hg hd ht hw hn' m (k + 1) n k _ _ (by omega) (by omega) (by omega) (Or.inr ⟨by omega, by omega, rfl, ?_, ?_⟩)
      · rcases hb with ⟨h1, _, h3⟩ | ⟨_, h1, h2, h3, h4⟩
        · subst h1; exact Nat.le_refl _
        · omega
      · rcases hb with ⟨h1, _, h3⟩ | ⟨_, h1, h2, h3, h4⟩
        · exact Or.inl h1
        · exact Or.inr (by omega)
theorem f9_best {μ0 μ : Mem} {r : Row} {Ls : List Row} {d m s n' w' : Nat} {t : Int32} (h : F9 μ0 (enc r) Ls μ) (hg : gd 9999 d r) (hm : r 196 = nI m) (hm4 : m ≤ 4) (hs : s < m) (ht : (-30 : Int32) ≤ t ∧ t ≤ 30) (hw : w' ≤ 30) (hn1 : 1 ≤ n') (hn : n' ≤ 60) :
    ∃ v q, f_L_bestFence μ (nI s) t (nI w') (nI n') = some (nL v, q) ∧ F9 μ0 (enc r) Ls q ∧ v ≤ 20 ∧ bfn r s t (nI w') n' v ≤ bfn r s t (nI w') n' 0 ∧ (v = 0 ∨ bfn r s t (nI w') n' v < bfn r s t (nI w') n' 0) := by
  have hd9 := hg.2.2.1
  have hG := gd_mono hg (show 9999 ≤ FD by unfold FD; omega) (by unfold FD; omega)
  have r3 : (0 : Int32) ≤ nI w' ∧ nI w' ≤ 30 := ⟨nI_pos' (by omega), by rw [show (30 : Int32) = nI 30 from rfl, le_nI (by omega) (by omega)]; exact hw⟩
  have r4 : (1 : Int32) ≤ nI n' ∧ nI n' ≤ 60 := ⟨by rw [show (1 : Int32) = nI 1 from rfl, le_nI (by omega) (by omega)]; exact hn1, by rw [show (60 : Int32) = nI 60 from rfl, le_nI (by omega) (by omega)]; exact hn⟩
  obtain ⟨v, Q', h1, h2, h3, h4⟩ := best_x h.1 (by omega : s < 4) (by rw [sc_of hm hm4]; exact hs) hG (by unfold FD; omega) (dg_of ht) hw hn 21 0 FU 0 31 (μ 1) (by omega) (fu_lt (by omega)) (by omega) (Or.inl ⟨rfl, rfl, rfl⟩)
  rw [mu_self] at h1
  have hX : f_X4_bestFence μ (nI s) t (nI w') (nI n') = some (0, nI v, va_up μ 1 Q') := by
    unfold f_X4_bestFence
    rw [X4_needSite_y (ν := cR r) h.1 hm hm4 hs, Option.bind_some, if_pos rfl, X4_needRange_y ht, Option.bind_some, if_pos rfl, X4_needRange_y r3, Option.bind_some, if_pos rfl, X4_needRange_y r4, Option.bind_some, if_pos rfl]
    exact h1
  refine ⟨v, va_up μ 1 Q', ?_, f9_t1 h (t1_up (t1_rf μ)), h2, h3, h4⟩
  unfold f_L_bestFence
  rw [hX, Option.bind_some, if_pos rfl, nI_L (by omega)]
theorem f9_heave {μ0 μ : Mem} {r : Row} {Ls : List Row} {d q p n' : Nat} {t : Int32} (h : F9 μ0 (enc r) Ls μ) (hg : gd 9999 d r) (hm : r 198 = nI q) (hm8 : q ≤ 8) (hp : p < q) (ht : (-30 : Int32) ≤ t ∧ t ≤ 30) (hn1 : 1 ≤ n') (hn : n' ≤ 60) :
    ∃ m, f_L_heaveIn μ (nI p) t (nI n') = some ((S_go r t 0 n' (158 + 5 * p)).toInt64, m) ∧ F9 μ0 (enc r) Ls m := by
  have hp8 : p < 8 := by omega
  have hd9 := hg.2.2.1
  have hG := gd_mono hg (show 9999 ≤ FD by unfold FD; omega) (by unfold FD; omega)
  have r4 : (1 : Int32) ≤ nI n' ∧ nI n' ≤ 60 := ⟨by rw [show (1 : Int32) = nI 1 from rfl, le_nI (by omega) (by omega)]; exact hn1, by rw [show (60 : Int32) = nI 60 from rfl, le_nI (by omega) (by omega)]; exact hn⟩
  obtain ⟨q6, hq6, hq64⟩ := inv_196 hg.1
  obtain ⟨z, hz1, _, hz3⟩ := inv_at hg.1 (bq_p0 (D := 9999) hp8)
  have hz3' : z ≤ 3 := hz3
  have hzs : z < q6 := by
    have := hg.1.2.2.2 p hp8 (by rw [hm, lt_nI (by omega) (by omega)]; exact hp)
    rw [hz1, hq6, lt_nI (by omega) (by omega)] at this
    exact this
  have hs4 : z < 4 := by omega
  have hsc : z < sc r := by rw [sc_of hq6 hq64]; exact hzs
  have hdF : d + n' ≤ FD := by unfold FD; omega
  have hdt := dg_of ht
  have oj : ¬ oob (nI p) 8 := by rw [oob_nI (by omega)]; omega
  have hgo : Ag z (S_go r t 0 n') (S_at r z t 0 n') := go_ag n' 0 _ _ hsc (ag_refl z _)
  have hv : S_at r z t 0 n' (158 + 5 * p) = S_go r t 0 n' (158 + 5 * p) := by
    refine (hgo _ (Or.inr (Or.inr ⟨by omega, by omega, Or.inr ?_⟩))).symm
    rw [show 156 + 5 * ((158 + 5 * p - 156) / 5) = 156 + 5 * p by omega, go_sth (by omega) (Or.inr (Or.inr (by omega))) (by omega)]
    exact hz1
  have hXd : f_X0_passDaysAt (enc r) (nI z) t 0 (nI n') = some (enc (S_at r z t 0 n')) := X0_passDaysAt (w' := 0) hs4 hG hdF hdt (by omega) (by omega)
  have hX : f_X4_heaveIn μ (nI p) t (nI n') = some (0, S_go r t 0 n' (158 + 5 * p), va_up μ 1 (enc (S_at r z t 0 n'))) := by
    unfold f_X4_heaveIn
    rw [X4_needPipe_y (ν := cR r) h.1 hm hm8 hp, Option.bind_some, if_pos rfl, X4_needRange_y ht, Option.bind_some, if_pos rfl, X4_needRange_y r4, Option.bind_some, if_pos rfl, X0_copyFrom, Option.bind_some]
    simp only [oj, if_false]
    rw [mu_at, cl_nI (by omega), h.1, enc_hi (by omega), hz1, hXd, Option.bind_some, mu_two, mu_at, enc_hi (by omega), hv]
  refine ⟨va_up μ 1 (enc (S_at r z t 0 n')), ?_, f9_t1 h (t1_up (t1_rf μ))⟩
  unfold f_L_heaveIn
  rw [hX]
  rfl
theorem f9_sim {μ0 μ ν : Mem} {g : Row} {Ls : List Row} (h : F9 μ0 g Ls μ) (hR : Rel μ ν) (a : Int64) (b : Int32) : ∃ w q ν', f_L_simulate μ a b = some (w, q) ∧ F9 μ0 g Ls q ∧ Rel q ν' := by
  obtain ⟨k, v, μ', b', ν', h1, h2, h3, h4⟩ := call_simulate a b hR
  have ht := t1_simulate μ a b _ h1
  have hk : k = 0 ∨ k = 1 := by
    rcases h3 with ⟨e, _⟩ | ⟨i, e, _⟩
    · exact Or.inl e
    · have := List.mem_of_getElem? e
      simp only [List.mem_cons, List.not_mem_nil, or_false] at this
      exact Or.inr this
  unfold f_L_simulate
  rw [h1, Option.bind_some]
  rcases hk with rfl | rfl
  · exact ⟨_, μ', ν', rfl, f9_t1 h ht, h4⟩
  · exact ⟨_, μ', ν', rfl, f9_t1 h ht, h4⟩
