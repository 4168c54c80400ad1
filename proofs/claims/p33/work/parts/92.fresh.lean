/-! a cell that freezes on a day is of that day -/
def fsh (r0 : Row) (z : Nat) (D : Int32) (r : Row) : Prop := r 199 = D ∧ ∀ c, c < 30 → r (35 * z + (5 + c)) = r0 (35 * z + (5 + c)) ∨ r (35 * z + (5 + c)) = D ∨ r (35 * z + (5 + c)) = 0
theorem fsh_up {r0 r : Row} {z k : Nat} {D v : Int32} (hz : z < 4) (h : fsh r0 z D r) (hk : k < 35 * z + 5) : fsh r0 z D (upd r k v) := by
  refine ⟨by rw [pk_un (by omega)]; exact h.1, fun j hj => ?_⟩
  rw [pk_un (by omega)]
  exact h.2 j hj
theorem fsh_fz {r0 r : Row} {z c : Nat} {D : Int32} (hz : z < 4) (hc : c < 30) (h : fsh r0 z D r) : fsh r0 z D (S_fz r z c) := by
  refine ⟨by rw [fz_off (Or.inr (Or.inl (by omega))) (by omega)]; exact h.1, fun j hj => ?_⟩
  by_cases e : j = c
  · subst e
    rw [fz_cell hz hc]
    exact Or.inr (Or.inl h.1)
  · rw [fz_off (Or.inl (by omega)) (by omega)]
    exact h.2 j hj
theorem fsh_th {r0 r : Row} {z c : Nat} {D : Int32} (hz : z < 4) (hc : c < 30) (h : fsh r0 z D r) : fsh r0 z D (S_th r z c) := by
  refine ⟨by rw [th_off (Or.inr (Or.inl (by omega))) (by omega)]; exact h.1, fun j hj => ?_⟩
  by_cases e : j = c
  · subst e
    rw [th_cell hz hc]
    exact Or.inr (Or.inr rfl)
  · rw [th_off (Or.inl (by omega)) (by omega)]
    exact h.2 j hj
theorem fsh_fzl {r0 : Row} {z : Nat} {D : Int32} (hz : z < 4) : ∀ m c (r : Row), c + m ≤ 30 → fsh r0 z D r → fsh r0 z D (fzl z c m r)
  | 0, _, _, _, h => h
  | m + 1, c, r, hc, h => by
    unfold fzl
    split
    · exact h
    · refine fsh_fzl hz m (c + 1) _ (by omega) ?_
      split
      · exact h
      · exact fsh_fz hz (by omega) (fsh_up hz h (by omega))
theorem fsh_thl {r0 : Row} {z : Nat} {D : Int32} (hz : z < 4) : ∀ m c (r : Row), c + m ≤ 30 → fsh r0 z D r → fsh r0 z D (thl z c m r)
  | 0, _, _, _, h => h
  | m + 1, c, r, hc, h => by
    unfold thl
    split
    · exact h
    · refine fsh_thl hz m (c + 1) _ (by omega) ?_
      split
      · exact fsh_th hz (by omega) (fsh_up hz h (by omega))
      · exact h
theorem fsh_ls {r0 r : Row} {z : Nat} {D : Int32} (hz : z < 4) (h : fsh r0 z D r) : fsh r0 z D (S_ls r z) := by
  unfold S_ls
  split
  · exact h
  · split
    · rcases ld_or (fR r z) 30 with ⟨h3, _⟩ | ⟨c, hc, h3, _⟩
      · rw [if_pos h3]
        exact h
      · rw [h3, if_neg (m1_ne (by omega)), cl_nI (by omega)]
        exact fsh_th hz hc h
    · exact h
theorem fsh_ds {r0 r : Row} {z : Nat} {D t w : Int32} (hz : z < 4) (h : fsh r0 z D r) : fsh r0 z D (S_ds r z t w) := by
  unfold S_ds
  refine fsh_ls hz (fsh_thl hz 30 0 _ (by omega) (fsh_fzl hz 30 0 _ (by omega) ⟨by rw [wt_off (by omega)]; exact h.1, fun j hj => ?_⟩))
  rw [wt_off (by omega)]
  exact h.2 j hj
theorem new_day {r : Row} {s c : Nat} {t w : Int32} (hs : s < sc r) (hc : c < 30) (h0 : fR r s c = false) (h1 : fR (S_day r t w) s c = true) : S_day r t w (35 * s + (5 + c)) = S_day r t w 199 := by
  have h4 := sc_le r
  have ha := day_ag (t := t) (w := w) hs (ag_refl s r)
  have hf : fsh r s (r 199 + 1) (S_ds (upd r 199 (r 199 + 1)) s t w) := fsh_ds (by omega) ⟨pk_us, fun j hj => Or.inl (by rw [pk_un (by omega)])⟩
  rw [ag_s ha (j := 5 + c) (by omega), ag_g ha (k := 199) (by omega) (by omega), hf.1]
  rw [fR_ag ha hc] at h1
  have hp := fR_pos h1
  rcases hf.2 c hc with h | h | h
  · rw [h] at hp
    unfold fR at h0
    exact absurd hp (of_decide_eq_false h0)
  · exact h
  · rw [h] at hp
    exact absurd hp (by decide)
theorem ac_ge {r : Row} {s : Nat} (hs : s < sc r) : cf (fR r s) 0 30 ≤ ac r := sf_ge (f := fun s => cf (fR r s) 0 30) (sc r) hs
theorem V_s5 {μ : Mem} {r : Row} {m z : Nat} (hn : μ 0 = enc r) (hm : r 196 = nI m) (hm4 : m ≤ 4) (hz : z < m) : f_L_siteOf μ (nI z) 5 = some (nL (cf (fR r z) 0 30)) := by
  have h := V_site hn hm hm4 hz (by omega : 5 ≤ 8) (N_5 (r := r) (by omega))
  rw [nI_L (by have := cf_le (fR r z) 30 0; omega)] at h
  exact h
theorem f9_days0 {μ0 μ : Mem} {r : Row} {Ls : List Row} {d n' : Nat} {t : Int32} (h : F9 μ0 (enc r) Ls μ) (hl : Ls.length ≤ 13) (hg : gd 9999 d r) (h1 : (-30 : Int32) ≤ t ∧ t ≤ 30) (hn1 : 1 ≤ n') (hn' : n' ≤ 60) (hc : d + n' ≤ 9999) :
    ∃ m, f_L_days μ t 0 (nI n') = some (nL (ac (S_go r t 0 n')), m) ∧ F9 μ0 (enc (S_go r t 0 n')) (enc r :: Ls) m := f9_days (w' := 0) h hl hg h1 (by omega) hn1 hn' hc
theorem f9_days3 {μ0 μ : Mem} {r : Row} {Ls : List Row} {d n' : Nat} {t : Int32} (h : F9 μ0 (enc r) Ls μ) (hl : Ls.length ≤ 13) (hg : gd 9999 d r) (h1 : (-30 : Int32) ≤ t ∧ t ≤ 30) (hn1 : 1 ≤ n') (hn' : n' ≤ 60) (hc : d + n' ≤ 9999) :
    ∃ m, f_L_days μ t 3 (nI n') = some (nL (ac (S_go r t 3 n')), m) ∧ F9 μ0 (enc (S_go r t 3 n')) (enc r :: Ls) m := f9_days (w' := 3) h hl hg h1 (by omega) hn1 hn' hc
theorem go_196 {r : Row} {t w : Int32} {n : Nat} : S_go r t w n 196 = r 196 := go_sth (by omega) (Or.inr (Or.inl (by omega))) (by omega)
theorem go_198 {r : Row} {t w : Int32} {n : Nat} : S_go r t w n 198 = r 198 := go_sth (by omega) (Or.inr (Or.inl (by omega))) (by omega)
theorem bfr_196 {r : Row} {s k : Nat} (hs : s < 4) : bfr r s k 196 = r 196 := by
  unfold bfr
  rw [pk_un (by omega)]
theorem bfr_two {r : Row} {s a b : Nat} : bfr (bfr r s a) s b = bfr r s b := upd_two _ _ _ _
theorem bfr_at {r : Row} {s k : Nat} : bfr r s k (35 * s + 1) = nI k := pk_us
theorem X4_save1 {μ : Mem} : f_X4_save μ 1 = some (0, μ 0 199, va_up (va_up μ 18 (μ 0)) 21 (upd (μ 21) 1 1)) := by
  have oj : ¬ oob (nI 1) 2 := by rw [oob_nI (by omega)]; omega
  have cj : (nI 1).toNatClampNeg = 1 := cl_nI (by omega)
  show f_X4_save μ (nI 1) = _
  unfold f_X4_save
  rw [X4_needSlot_y (by omega), Option.bind_some, if_pos rfl]
  simp only [cj, oj, if_false, X0_copyFrom, Option.bind_some]
  rw [mu_off _ _ (by omega : (0 : Nat) ≠ 21), mu_off _ _ (by omega : (0 : Nat) ≠ 17 + 1), mu_off _ _ (by omega : (21 : Nat) ≠ 17 + 1)]
theorem X4_restore1 {μ : Mem} {r : Row} (h1 : μ 18 = enc r) (h2 : μ 21 1 = 1) : f_X4_restore μ 1 = some (0, r 199, va_up (va_up μ 20 (upd (upd (μ 20) 0 0) 1 0)) 0 (enc r)) := by
  have oj : ¬ oob (nI 1) 2 := by rw [oob_nI (by omega)]; omega
  have cj : (nI 1).toNatClampNeg = 1 := cl_nI (by omega)
  have n1 : ¬ (μ 21 1 = 0) := by rw [h2]; decide
  have h18 : μ (17 + 1) = enc r := h1
  show f_X4_restore μ (nI 1) = _
  unfold f_X4_restore f_X1_forgetAll
  rw [X4_needSlot_y (by omega), Option.bind_some, if_pos rfl, if_neg oj]
  simp only [cj, n1, oj, if_false, X0_copyFrom, Option.bind_some]
  rw [mu_two, mu_at, mu_off _ _ (by omega : (0 : Nat) ≠ 20), mu_at, mu_off _ _ (by omega : (20 : Nat) ≠ 0), h18, enc_hi (by omega), mu_comm _ (by omega : (0 : Nat) ≠ 20)]
