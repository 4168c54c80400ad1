/-! bestFence, heaveIn -/
theorem mu3 {α : Type} (f : Nat → α) (k : Nat) (a b c : α) : va_up (va_up (va_up f k a) k b) k c = va_up f k c := by rw [mu_two, mu_two]
def bfr (r : Row) (s k : Nat) : Row := upd r (35 * s + 1) (nI k)
theorem gd_bfr {D d s k : Nat} {r : Row} (h : gd D d r) (hs : s < 4) (hk : k ≤ 20) : gd D d (bfr r s k) := gd_s1 h hs hk
theorem sc_bfr {s k : Nat} {r : Row} (hs : s < 4) : sc (bfr r s k) = sc r := by
  unfold sc bfr
  rw [pk_un (by omega)]
def bfn (r : Row) (s : Nat) (t w : Int32) (n k : Nat) : Nat := cf (fR (S_go (bfr r s k) t w n) s) 0 30
theorem bf_X {D d s w' n' k n : Nat} {t v5 v6 : Int32} {μ : Mem} {X r : Row} (hμ : μ 0 = enc r) (hs4 : s < 4) (hsc : s < sc r) (hg : gd D d r) (hd : d + n' ≤ D) (ht : dg t) (hw : w' ≤ 30) (hn' : n' ≤ 60) (hk : k ≤ 20) :
    fl_X4_bestFence (nI s) t (nI w') (nI n') (n + 1) (va_up μ 1 X) v5 v6 (nI k) = if v6 ≤ nI (bfn r s t (nI w') n' k) then fl_X4_bestFence (nI s) t (nI w') (nI n') n (va_up μ 1 (enc (S_at (bfr r s k) s t (nI w') n'))) v5 v6 (nI (k + 1)) else fl_X4_bestFence (nI s) t (nI w') (nI n') n (va_up μ 1 (enc (S_at (bfr r s k) s t (nI w') n'))) (nI k) (nI (bfn r s t (nI w') n' k)) (nI (k + 1)) := by
  have hk4 : ¬ (20 : Int32) < nI k := fun x => by rw [show (20 : Int32) = nI 20 from rfl, lt_nI (by omega) (by omega)] at x; omega
  have e1 : nI k + 1 = nI (k + 1) := add_nI k 1
  have oj : ¬ oob (nI s) 4 := by rw [oob_nI (by omega)]; omega
  have hgo : Ag s (S_go (bfr r s k) t (nI w') n') (S_at (bfr r s k) s t (nI w') n') := go_ag n' 0 _ _ (by rw [sc_bfr hs4]; exact hsc) (ag_refl s _)
  have ec : cf (fR (S_at (bfr r s k) s t (nI w') n') s) 0 30 = bfn r s t (nI w') n' k := (cf_agf hgo).symm
  have eu : upd (enc r) (35 * s + 1) (nI k) = enc (bfr r s k) := enc_upl (by omega)
  show fb_X4_bestFence_1 (nI s) t (nI w') (nI n') (fl_X4_bestFence (nI s) t (nI w') (nI n') n) _ v5 v6 (nI k) = _
  unfold fb_X4_bestFence_1
  rw [if_neg hk4, mu_off μ _ (by omega : (0 : Nat) ≠ 1), hμ, X0_copyFrom, Option.bind_some]
  simp only [oj, if_false]
  rw [cl_nI (by omega), mu_two, mu_at, mu_two, mu_at, eu, X0_passDaysAt hs4 (gd_bfr hg hs4 hk) hd ht hw (by omega), Option.bind_some, mu_two, mu_at, show (30 : Int32) = nI 30 from rfl, E2_frozenWithin hs4 (by omega), Option.bind_some, ec, e1, mu_two]
theorem bf_s2 (a1 a2 a3 a4 : Int32) (n : Nat) (ν : Mem) (t0 v10 v5 v6 v7 v9 : Int32) : fl_X5_bestFence a1 a2 a3 a4 (n + 1) 2 ν t0 v10 v5 v6 v7 v9 = fb_X5_bestFence_2 a1 a2 a3 a4 (fl_X5_bestFence a1 a2 a3 a4 n) ν t0 v10 v5 v6 v7 v9 := rfl
theorem bf_s3 (a1 a2 a3 a4 : Int32) (n : Nat) (ν : Mem) (t0 v10 v5 v6 v7 v9 : Int32) : fl_X5_bestFence a1 a2 a3 a4 (n + 1) 3 ν t0 v10 v5 v6 v7 v9 = if t0 = 0 then fl_X5_bestFence a1 a2 a3 a4 n 4 ν v5 t0 0 v6 v7 v9 else fl_X5_bestFence a1 a2 a3 a4 n 4 ν v7 t0 0 v6 v7 v9 := rfl
theorem bf_s4 (a1 a2 a3 a4 : Int32) (n : Nat) (ν : Mem) (t0 v10 v5 v6 v7 v9 : Int32) : fl_X5_bestFence a1 a2 a3 a4 (n + 1) 4 ν t0 v10 v5 v6 v7 v9 = if v10 = 0 then fl_X5_bestFence a1 a2 a3 a4 n 2 ν 0 0 t0 v6 (v7 + 1) 0 else fl_X5_bestFence a1 a2 a3 a4 n 2 ν 0 0 t0 v9 (v7 + 1) 0 := rfl
theorem bf_Y {D d s w' n' k n : Nat} {t v5 v6 : Int32} {ν : Mem} {X r : Row} (hν : ν 1 = r) (hX : Zr X) (hs4 : s < 4) (hg : gd D d r) (hd : d + n' ≤ D) (ht : dg t) (hw : w' ≤ 30) (hn' : n' ≤ 60) (hk : k ≤ 20) :
    fl_X5_bestFence (nI s) t (nI w') (nI n') (n + 3) 2 (va_up ν 2 X) 0 0 v5 v6 (nI k) 0 = if v5 = -1 ∨ ¬ v6 ≤ nI (bfn r s t (nI w') n' k) then fl_X5_bestFence (nI s) t (nI w') (nI n') n 2 (va_up ν 2 (S_go (bfr r s k) t (nI w') n')) 0 0 (nI k) (nI (bfn r s t (nI w') n' k)) (nI (k + 1)) 0 else fl_X5_bestFence (nI s) t (nI w') (nI n') n 2 (va_up ν 2 (S_go (bfr r s k) t (nI w') n')) 0 0 v5 v6 (nI (k + 1)) 0 := by
  have hk4 : ¬ (20 : Int32) < nI k := fun x => by rw [show (20 : Int32) = nI 20 from rfl, lt_nI (by omega) (by omega)] at x; omega
  have e1 : nI k + 1 = nI (k + 1) := add_nI k 1
  have ei : (35 : Int32) * nI s + 1 = nI (35 * s + 1) := by rw [show (35 : Int32) = nI 35 from rfl, mul_nI]; exact add_nI _ 1
  have oj : ¬ oob (nI (35 * s + 1)) 205 := by rw [oob_nI (by omega)]; omega
  have hcp : f_X5_copy X r = some r := X5_copy (gd_Z hg) hX
  have eu : upd r (35 * s + 1) (nI k) = bfr r s k := rfl
  have hb : ∀ (M : Mem) (F : Int32), fl_X5_bestFence (nI s) t (nI w') (nI n') (n + 2) 3 M 1 0 v5 v6 (nI k) F = fl_X5_bestFence (nI s) t (nI w') (nI n') n 2 M 0 0 (nI k) F (nI (k + 1)) 0 := fun M F => by
    rw [bf_s3, if_neg i10, bf_s4, if_neg i10, e1]
  have hw2 : ∀ (M : Mem) (F : Int32), fl_X5_bestFence (nI s) t (nI w') (nI n') (n + 2) 3 M 0 0 v5 v6 (nI k) F = fl_X5_bestFence (nI s) t (nI w') (nI n') n 2 M 0 0 v5 v6 (nI (k + 1)) 0 := fun M F => by
    rw [bf_s3, if_pos rfl, bf_s4, if_pos rfl, e1]
  have hF : cf (fR (S_go (bfr r s k) t (nI w') n') s) 0 30 = bfn r s t (nI w') n' k := rfl
  rw [bf_s2]
  unfold fb_X5_bestFence_2
  rw [if_neg hk4, mu_off ν _ (by omega : (1 : Nat) ≠ 2), hν, mu_at, hcp, Option.bind_some, ei]
  simp only [oj, if_false]
  rw [cl_nI (by omega), mu_two, mu_at, mu_two, mu_at, eu, X5_goDays (gd_bfr hg hs4 hk) hd ht hw (by omega), Option.bind_some]
  dsimp only
  rw [mu_two, mu_at, X5_cells hs4, hF, Option.bind_some, hb, hw2, mu_two]
  by_cases h1 : v5 = -1
  · rw [if_pos h1, if_pos (Or.inl h1)]
  · rw [if_neg h1]
    by_cases h2 : v6 ≤ nI (bfn r s t (nI w') n' k)
    · rw [if_pos h2, if_neg (fun x => x.elim h1 (fun y => y h2))]
    · rw [if_neg h2, if_pos (Or.inr h2)]
theorem bf_l {D d s w' n' : Nat} {t : Int32} {μ ν : Mem} {r : Row} (hμ : μ 0 = enc r) (hν : ν 1 = r) (hs4 : s < 4) (hsc : s < sc r) (hg : gd D d r) (hd : d + n' ≤ D) (ht : dg t) (hw : w' ≤ 30) (hn' : n' ≤ 60) : ∀ m k n q b f (X Y : Row), k + m = 21 → m < n → 3 * m < q → b < 100 → Zr Y →
    ∃ v Q Q', fl_X4_bestFence (nI s) t (nI w') (nI n') n (va_up μ 1 X) (nI b) (nI f) (nI k) = some (0, v, va_up μ 1 Q') ∧ fl_X5_bestFence (nI s) t (nI w') (nI n') q 2 (va_up ν 2 Y) 0 0 (nI b) (nI f) (nI k) 0 = some (v, va_up ν 2 Q) ∧ Zr Q
  | 0, k, n + 1, q + 1, b, f, X, Y, hk, _, _, _, hY => by
    have e : k = 21 := by omega
    subst e
    refine ⟨nI b, Y, X, ?_, ?_, hY⟩
    · show fb_X4_bestFence_1 (nI s) t (nI w') (nI n') (fl_X4_bestFence (nI s) t (nI w') (nI n') n) _ _ _ (nI 21) = _
      unfold fb_X4_bestFence_1
      rw [if_pos (by decide)]
    · show fb_X5_bestFence_2 (nI s) t (nI w') (nI n') (fl_X5_bestFence (nI s) t (nI w') (nI n') q) _ 0 0 _ _ (nI 21) 0 = _
      unfold fb_X5_bestFence_2
      rw [if_pos (by decide)]
  | m + 1, k, n + 1, q + 3, b, f, X, Y, hk, hn, hq, hb, hY => by
    rw [bf_X hμ hs4 hsc hg hd ht hw hn' (by omega), bf_Y hν hY hs4 hg hd ht hw hn' (by omega)]
    have hZ : Zr (S_go (bfr r s k) t (nI w') n') := gd_Z (gd_go ht hw n' 0 d _ (gd_bfr hg hs4 (by omega)) hd)
    by_cases h : nI f ≤ nI (bfn r s t (nI w') n' k)
    · rw [if_pos h, if_neg (fun x => x.elim (m1_ne (by omega)) (fun y => y h))]
      exact bf_l hμ hν hs4 hsc hg hd ht hw hn' m (k + 1) n q b f _ _ (by omega) (by omega) (by omega) hb hZ
    · rw [if_neg h, if_pos (Or.inr h)]
      exact bf_l hμ hν hs4 hsc hg hd ht hw hn' m (k + 1) n q k _ _ _ (by omega) (by omega) (by omega) (by omega) hZ
theorem call_bestFence {μ ν : Mem} (a1 a2 a3 a4 : Int32) (h : Rel μ ν) : Call [3, 1] (f_X4_bestFence μ a1 a2 a3 a4) (f_X5_bestFence ν a1 a2 a3 a4) := by
  obtain ⟨d, hg⟩ := h.1.2
  have hn := h.1.1
  obtain ⟨m, hm, hm4⟩ := inv_196 hg.1
  unfold f_X4_bestFence f_X5_bestFence
  rcases in_cases a1 m (by omega) with ⟨s, hs, rfl⟩ | hx
  · rw [X4_needSite_y hn hm hm4 hs, X5_isSite_y hm hm4 hs, Option.bind_some, Option.bind_some, if_pos rfl, if_neg i10]
    by_cases hwe : wea a2 a3 a4
    · obtain ⟨h1, h2, h3⟩ := hwe
      rw [X5_isWeather_y ⟨h1, h2, h3⟩, X4_needRange_y h1, X4_needRange_y h2, X4_needRange_y h3, Option.bind_some, if_pos rfl, Option.bind_some, if_pos rfl, Option.bind_some, if_pos rfl, Option.bind_some, if_neg i10]
      obtain ⟨w', hw', rfl⟩ := rng_nI (n := 30) (by omega) h2
      obtain ⟨n', hn', rfl⟩ := rng_nI (n := 60) (by omega) ⟨Int32.le_trans (by decide) h3.1, h3.2⟩
      have hd9 := hg.2.2.1
      have hG := gd_mono hg (show 9999 ≤ FD by unfold FD; omega) (by unfold FD; omega)
      have hsc : s < sc (ν 1) := by rw [sc_of hm hm4]; exact hs
      have hs4 : s < 4 := by omega
      have hdF : d + n' ≤ FD := by unfold FD; omega
      have ht := dg_of h1
      have hZ : Zr (S_go (bfr (ν 1) s 0) a2 (nI w') n') := gd_Z (gd_go ht hw' n' 0 d _ (gd_bfr hG hs4 (by omega)) hdF)
      have hF : ¬ (31 : Int32) ≤ nI (bfn (ν 1) s a2 (nI w') n' 0) := fun x => by
        have := cf_le (fR (S_go (bfr (ν 1) s 0) a2 (nI w') n') s) 30 0
        unfold bfn at x
        rw [show (31 : Int32) = nI 31 from rfl, le_nI (by omega) (by omega)] at x
        omega
      obtain ⟨v, Q, Q', q1, q2, q3⟩ := bf_l (μ := μ) (ν := rf ν 0) hn (by rw [rf_o (by omega)]) hs4 hsc hG hdF ht hw' hn' 20 1 999999999 999999996 0 (bfn (ν 1) s a2 (nI w') n' 0) (enc (S_at (bfr (ν 1) s 0) s a2 (nI w') n')) (S_go (bfr (ν 1) s 0) a2 (nI w') n') (by omega) (by omega) (by omega) (by omega) hZ
      have hX0 := bf_X (n := 999999999) (v5 := 0) (v6 := 31) (X := μ 1) (k := 0) hn hs4 hsc hG hdF ht hw' hn' (by omega)
      rw [if_neg hF, mu_self] at hX0
      have hY0 := bf_Y (ν := rf ν 0) (n := 999999996) (v5 := -1) (v6 := 0) (X := rf ν 0 2) (k := 0) (rf_o (by omega)) (zr_rf h.2.1) hs4 hG hdF ht hw' hn' (by omega)
      rw [if_pos (Or.inl rfl), mu_self] at hY0
      refine c_ok h q3 (hX0.trans q1) ?_
      show fb_X5_bestFence_1 (nI s) a2 (nI w') (nI n') (fl_X5_bestFence (nI s) a2 (nI w') (nI n') 999999999) ν 0 0 0 0 0 0 = _
      unfold fb_X5_bestFence_1
      rw [ref_ok]
      exact hY0.trans q2
    · rw [X5_isWeather_n hwe, Option.bind_some, if_pos rfl]
      refine c_no (v := 0) (k := 1) (i := 1) h rfl ?_ ?_
      · by_cases g1 : (-30 : Int32) ≤ a2 ∧ a2 ≤ 30
        · rw [X4_needRange_y g1, Option.bind_some, if_pos rfl]
          by_cases g2 : (0 : Int32) ≤ a3 ∧ a3 ≤ 30
          · rw [X4_needRange_y g2, Option.bind_some, if_pos rfl]
            by_cases g3 : (1 : Int32) ≤ a4 ∧ a4 ≤ 60
            · exact absurd ⟨g1, g2, g3⟩ hwe
            · rw [X4_needRange_n g3, Option.bind_some, if_neg (by decide)]
          · rw [X4_needRange_n g2, Option.bind_some, if_neg (by decide)]
        · rw [X4_needRange_n g1, Option.bind_some, if_neg (by decide)]
      · show fb_X5_bestFence_1 (nI s) a2 a3 a4 (fl_X5_bestFence (nI s) a2 a3 a4 999999999) ν 2 0 0 0 0 0 = _
        exact ref_no (t := 2) (by decide) _
  · rw [X4_needSite_n hn hm hx, X5_isSite_n hm hm4 hx, Option.bind_some, Option.bind_some, if_neg (by decide), if_pos rfl]
    refine c_no (i := 0) h rfl rfl ?_
    show fb_X5_bestFence_1 a1 a2 a3 a4 (fl_X5_bestFence a1 a2 a3 a4 999999999) ν 1 0 0 0 0 0 = _
    exact ref_no (t := 1) (by decide) _
/-! what a day leaves of pipes' places -/
theorem fzl_sth {z k : Nat} (hz : z < 4) (h1 : 140 ≤ k) (hk : st k) : ∀ m c r, c + m ≤ 30 → fzl z c m r k = r k
  | 0, _, _, _ => rfl
  | m + 1, c, r, hc => by
    show (if r (35 * z + 2) < nI (4 + c) then r else fzl z (c + 1) m (if fR r z c then r else fz1 r z c)) k = r k
    split
    · rfl
    · rw [fzl_sth hz h1 hk m (c + 1) _ (by omega)]
      split
      · rfl
      · unfold fz1
        rw [fz_off hk (by omega), pk_un (by omega)]
theorem thl_sth {z k : Nat} (hz : z < 4) (h1 : 140 ≤ k) (hk : st k) : ∀ m c r, c + m ≤ 30 → thl z c m r k = r k
  | 0, _, _, _ => rfl
  | m + 1, c, r, hc => by
    show (if r (35 * z + 3) < nI (3 + c) then r else thl z (c + 1) m (if fR r z c then th1 r z c else r)) k = r k
    split
    · rfl
    · rw [thl_sth hz h1 hk m (c + 1) _ (by omega)]
      split
      · unfold th1
        rw [th_off hk (by omega), pk_un (by omega)]
      · rfl
theorem ls_sth {z k : Nat} {r : Row} (hz : z < 4) (h1 : 140 ≤ k) (hk : st k) : S_ls r z k = r k := by
  unfold S_ls
  split
  · rfl
  · split
    · rcases ld_or (fR r z) 30 with ⟨h3, _⟩ | ⟨c, hc, h3, _⟩
      · rw [if_pos h3]
      · rw [h3, if_neg (m1_ne (by omega)), cl_nI (by omega), th_off hk (by omega)]
    · rfl
theorem ds_sth {r : Row} {z k : Nat} {t w : Int32} (hz : z < 4) (h1 : 140 ≤ k) (hk : st k) : S_ds r z t w k = r k := by
  unfold S_ds
  rw [ls_sth hz h1 hk, thl_sth hz h1 hk 30 0 _ (by omega), fzl_sth hz h1 hk 30 0 _ (by omega), S_wt_hi hz (by omega)]
theorem day_sth {r : Row} {k : Nat} {t w : Int32} (h1 : 140 ≤ k) (hk : st k) (h9 : k ≠ 199) : S_day r t w k = r k := by
  have := sc_le r
  exact itr_rng (fun s : Row => s k = r k) (sc r) 0 _ (fun j s _ h2 h3 => by rw [ds_sth (by omega) h1 hk]; exact h3) (by rw [pk_un h9])
theorem go_sth {r : Row} {k n : Nat} {t w : Int32} (h1 : 140 ≤ k) (hk : st k) (h9 : k ≠ 199) : S_go r t w n k = r k :=
  itr_rng (fun s : Row => s k = r k) n 0 _ (fun j s _ h2 h3 => by rw [day_sth h1 hk h9]; exact h3) rfl
theorem call_heaveIn {μ ν : Mem} (a1 a2 a3 : Int32) (h : Rel μ ν) : Call [3, 1] (f_X4_heaveIn μ a1 a2 a3) (f_X5_heaveIn ν a1 a2 a3) := by
  obtain ⟨d, hg⟩ := h.1.2
  have hn := h.1.1
  obtain ⟨m, hm, hm8⟩ := inv_198 hg.1
  unfold f_X4_heaveIn f_X5_heaveIn
  rcases in_cases a1 m (by omega) with ⟨p, hp, rfl⟩ | hx
  · rw [X4_needPipe_y hn hm hm8 hp, X5_isPipe_y hm hm8 hp, Option.bind_some, Option.bind_some, if_pos rfl, if_neg i10]
    have hp8 : p < 8 := by omega
    by_cases hwe : wea a2 0 a3
    · obtain ⟨h1, h2, h3⟩ := hwe
      rw [X5_isWeather_y ⟨h1, h2, h3⟩, X4_needRange_y h1, X4_needRange_y h3, Option.bind_some, if_pos rfl, Option.bind_some, if_pos rfl, Option.bind_some, if_neg i10]
      obtain ⟨n', hn', rfl⟩ := rng_nI (n := 60) (by omega) ⟨Int32.le_trans (by decide) h3.1, h3.2⟩
      have hd9 := hg.2.2.1
      have hG := gd_mono hg (show 9999 ≤ FD by unfold FD; omega) (by unfold FD; omega)
      obtain ⟨q, hq, hq4⟩ := inv_196 hg.1
      obtain ⟨z, hz1, _, hz3⟩ := inv_at hg.1 (bq_p0 (D := 9999) hp8)
      have hz3' : z ≤ 3 := hz3
      have hzs : z < q := by
        have := hg.1.2.2.2 p hp8 (by rw [hm, lt_nI (by omega) (by omega)]; exact hp)
        rw [hz1, hq, lt_nI (by omega) (by omega)] at this
        exact this
      have hs4 : z < 4 := by omega
      have hsc : z < sc (ν 1) := by rw [sc_of hq hq4]; exact hzs
      have hdF : d + n' ≤ FD := by unfold FD; omega
      have ht := dg_of h1
      have oj : ¬ oob (nI p) 8 := by rw [oob_nI (by omega)]; omega
      have hgo : Ag z (S_go (ν 1) a2 0 n') (S_at (ν 1) z a2 0 n') := go_ag n' 0 _ _ hsc (ag_refl z _)
      have hv : S_at (ν 1) z a2 0 n' (158 + 5 * p) = S_go (ν 1) a2 0 n' (158 + 5 * p) := by
        refine (hgo _ (Or.inr (Or.inr ⟨by omega, by omega, Or.inr ?_⟩))).symm
        rw [show 156 + 5 * ((158 + 5 * p - 156) / 5) = 156 + 5 * p by omega, go_sth (by omega) (Or.inr (Or.inr (by omega))) (by omega)]
        exact hz1
      have hXd : f_X0_passDaysAt (enc (ν 1)) (nI z) a2 0 (nI n') = some (enc (S_at (ν 1) z a2 0 n')) := X0_passDaysAt (w' := 0) hs4 hG hdF ht (by omega) (by omega)
      have hYd : f_X5_goDays (ν 1) a2 0 (nI n') = some (nI (ac (S_go (ν 1) a2 0 n')), S_go (ν 1) a2 0 n') := X5_goDays (w' := 0) hG hdF ht (by omega) (by omega)
      have hZ : Zr (S_go (ν 1) a2 0 n') := gd_Z (gd_go (w' := 0) ht (by omega) n' 0 d _ hG hdF)
      refine c_ok (v := S_go (ν 1) a2 0 n' (158 + 5 * p)) (x := enc (S_at (ν 1) z a2 0 n')) h hZ ?_ ?_
      · rw [X0_copyFrom, Option.bind_some]
        simp only [oj, if_false]
        rw [mu_at, cl_nI (by omega), hn, enc_hi (by omega), hz1, hXd, Option.bind_some, mu_two, mu_at, enc_hi (by omega), hv]
      · show fb_X5_heaveIn_1 (nI p) a2 (nI n') (fl_X5_heaveIn (nI p) a2 (nI n') 999999999) ν 0 = _
        unfold fb_X5_heaveIn_1
        have ei : (156 : Int32) + 5 * nI p + 2 = nI (158 + 5 * p) := by rw [show (156 : Int32) = nI 156 from rfl, show (5 : Int32) = nI 5 from rfl, show (2 : Int32) = nI 2 from rfl, mul_nI, add_nI, add_nI, show 156 + 5 * p + 2 = 158 + 5 * p by omega]
        have o2 : ¬ oob (nI (158 + 5 * p)) 205 := by rw [oob_nI (by omega)]; omega
        rw [ref_ok, cp5 h, Option.bind_some, mu_at, hYd, Option.bind_some, ei, if_neg o2, mu_two, mu_at, cl_nI (by omega)]
    · rw [X5_isWeather_n hwe, Option.bind_some, if_pos rfl]
      refine c_no (v := 0) (k := 1) (i := 1) h rfl ?_ ?_
      · by_cases g1 : (-30 : Int32) ≤ a2 ∧ a2 ≤ 30
        · rw [X4_needRange_y g1, Option.bind_some, if_pos rfl]
          by_cases g3 : (1 : Int32) ≤ a3 ∧ a3 ≤ 60
          · exact absurd ⟨g1, ⟨by decide, by decide⟩, g3⟩ hwe
          · rw [X4_needRange_n g3, Option.bind_some, if_neg (by decide)]
        · rw [X4_needRange_n g1, Option.bind_some, if_neg (by decide)]
      · show fb_X5_heaveIn_1 (nI p) a2 a3 (fl_X5_heaveIn (nI p) a2 a3 999999999) ν 2 = _
        exact ref_no (t := 2) (by decide) _
  · rw [X4_needPipe_n hn hm hx, X5_isPipe_n hm hm8 hx, Option.bind_some, Option.bind_some, if_neg (by decide), if_pos rfl]
    refine c_no (i := 0) h rfl rfl ?_
    show fb_X5_heaveIn_1 a1 a2 a3 (fl_X5_heaveIn a1 a2 a3 999999999) ν 1 = _
    exact ref_no (t := 1) (by decide) _
