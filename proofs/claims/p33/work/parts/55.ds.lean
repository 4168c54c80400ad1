theorem fst_pos (p : Nat → Bool) {k m : Nat} (h : p k = true) : fst p k (m + 1) = k := by
  show (if p k = true then k else fst p (k + 1) m) = k
  rw [if_pos h]
theorem fst_neg (p : Nat → Bool) {k m : Nat} (h : p k = false) : fst p k (m + 1) = fst p (k + 1) m := by
  show (if p k = true then k else fst p (k + 1) m) = _
  rw [h]
  rfl
def fz1 (r : Row) (z c : Nat) : Row := S_fz (upd r (35 * z + 2) (r (35 * z + 2) - nI (4 + c))) z c
def th1 (r : Row) (z c : Nat) : Row := S_th (upd r (35 * z + 3) (r (35 * z + 3) - nI (3 + c))) z c
def fzl (z : Nat) : Nat → Nat → Row → Row
  | _, 0, r => r
  | c, m + 1, r => if r (35 * z + 2) < nI (4 + c) then r else fzl z (c + 1) m (if fR r z c then r else fz1 r z c)
def thl (z : Nat) : Nat → Nat → Row → Row
  | _, 0, r => r
  | c, m + 1, r => if r (35 * z + 3) < nI (3 + c) then r else thl z (c + 1) m (if fR r z c then th1 r z c else r)
def S_ls (r : Row) (z : Nat) : Row := if r 202 ≤ 0 then r else if r 199 - r 199 / r 202 * r 202 = 0 then (if ld (fR r z) 30 = -1 then r else S_th r z (ld (fR r z) 30).toNatClampNeg) else r
def S_ds (r : Row) (z : Nat) (t w : Int32) : Row := S_ls (thl z 0 30 (fzl z 0 30 (S_wt r z t w))) z
theorem fzs_upd {z c p k : Nat} {v : Int32} {r : Row} (hp : p < 8) (hk : k < 140) : fzs z c p (upd r k v) = upd (fzs z c p r) k v := by
  unfold fzs
  rw [pk_un (by omega), pk_un (by omega)]
  by_cases h : r (156 + 5 * p) = nI z ∧ r (157 + 5 * p) = nI c
  · rw [if_pos h, if_pos h]
    unfold p3
    rw [pk_un (by omega), pk_un (by omega), pk_un (by omega), pk_un (by omega), upd_comm _ (by omega : k ≠ 158 + 5 * p), upd_comm _ (by omega : k ≠ 159 + 5 * p), upd_comm _ (by omega : k ≠ 160 + 5 * p)]
  · rw [if_neg h, if_neg h]
theorem ths_upd {z c p k : Nat} {v : Int32} {r : Row} (hp : p < 8) (hk : k < 140) : ths z c p (upd r k v) = upd (ths z c p r) k v := by
  unfold ths
  rw [pk_un (by omega), pk_un (by omega)]
  by_cases h : r (156 + 5 * p) = nI z ∧ r (157 + 5 * p) = nI c
  · rw [if_pos h, if_pos h, pk_un (by omega), upd_comm _ (by omega : k ≠ 158 + 5 * p)]
  · rw [if_neg h, if_neg h]
theorem pn_upd {r : Row} {k : Nat} {v : Int32} (hk : k ≠ 198) : pn (upd r k v) = pn r := by
  unfold pn
  rw [pk_un (Ne.symm hk)]
theorem fz_upd {r : Row} {z c k : Nat} {v : Int32} (hk : k < 140) (h : k ≠ 35 * z + (5 + c)) : S_fz (upd r k v) z c = upd (S_fz r z c) k v := by
  have := pn_le r
  unfold S_fz
  rw [pn_upd (by omega), pk_un (by omega), upd_comm _ h]
  exact itr_comm (fun s => upd s k v) (pn r) 0 _ (fun j s _ h2 => fzs_upd (by omega) hk)
theorem th_upd {r : Row} {z c k : Nat} {v : Int32} (hk : k < 140) (h : k ≠ 35 * z + (5 + c)) : S_th (upd r k v) z c = upd (S_th r z c) k v := by
  have := pn_le r
  unfold S_th
  rw [pn_upd (by omega), upd_comm _ h]
  exact itr_comm (fun s => upd s k v) (pn r) 0 _ (fun j s _ h2 => ths_upd (by omega) hk)
theorem fz1_eq {r : Row} {z c : Nat} (hz : z < 4) : fz1 r z c = upd (S_fz r z c) (35 * z + 2) (S_fz r z c (35 * z + 2) - nI (4 + c)) := by
  unfold fz1
  rw [fz_upd (by omega) (by omega), fz_off (Or.inl (by omega)) (by omega)]
theorem th1_eq {r : Row} {z c : Nat} (hz : z < 4) : th1 r z c = upd (S_th r z c) (35 * z + 3) (S_th r z c (35 * z + 3) - nI (3 + c)) := by
  unfold th1
  rw [th_upd (by omega) (by omega), th_off (Or.inl (by omega)) (by omega)]
/-- what a day's loops want of the row all along -/
def dk (r : Row) (m : Nat) : Prop := r 198 = nI m ∧ m ≤ 8 ∧ 0 < r 199
theorem fz1_hi {r : Row} {z c k : Nat} (hz : z < 4) (hc : c < 30) (hk : 196 ≤ k) : fz1 r z c k = r k := by
  unfold fz1
  rw [fz_off (Or.inr (Or.inl hk)) (by omega), pk_un (by omega)]
theorem th1_hi {r : Row} {z c k : Nat} (hz : z < 4) (hc : c < 30) (hk : 196 ≤ k) : th1 r z c k = r k := by
  unfold th1
  rw [th_off (Or.inr (Or.inl hk)) (by omega), pk_un (by omega)]
theorem fz1_dk {r : Row} {z c m : Nat} (hz : z < 4) (hc : c < 30) (h : dk r m) : dk (fz1 r z c) m := by
  unfold dk
  rw [fz1_hi hz hc (by omega), fz1_hi hz hc (by omega)]
  exact h
theorem th1_dk {r : Row} {z c m : Nat} (hz : z < 4) (hc : c < 30) (h : dk r m) : dk (th1 r z c) m := by
  unfold dk
  rw [th1_hi hz hc (by omega), th1_hi hz hc (by omega)]
  exact h
theorem fR_congr {r s : Row} {z c : Nat} (h : r (35 * z + (5 + c)) = s (35 * z + (5 + c))) : fR r z c = fR s z c := by
  unfold fR
  rw [h]
theorem fz1_fR {r : Row} {z c j m : Nat} (hz : z < 4) (hc : c < 30) (hj : j < 30) (h : dk r m) : fR (fz1 r z c) z j = (if j = c then true else fR r z j) := by
  by_cases e : j = c
  · subst e
    rw [if_pos rfl]
    unfold fR fz1
    rw [fz_cell hz hc, pk_un (by omega)]
    exact decide_eq_true h.2.2
  · rw [if_neg e]
    apply fR_congr
    unfold fz1
    rw [fz_off (Or.inl (by omega)) (by omega), pk_un (by omega)]
theorem th1_fR {r : Row} {z c j : Nat} (hz : z < 4) (hc : c < 30) (hj : j < 30) : fR (th1 r z c) z j = (if j = c then false else fR r z j) := by
  by_cases e : j = c
  · subst e
    rw [if_pos rfl]
    unfold fR th1
    rw [th_cell hz hc]
    rfl
  · rw [if_neg e]
    apply fR_congr
    unfold th1
    rw [th_off (Or.inl (by omega)) (by omega), pk_un (by omega)]
theorem X0_day1 {z pm : Nat} {t w : Int32} (hz : z < 4) : ∀ m c r n, c + m = 30 → dk r pm → m < n → ∃ n', n ≤ n' + m + 1 ∧ fl_X0_passDay (nI z) t w n 1 (enc r) (nI c) = fl_X0_passDay (nI z) t w n' 2 (enc (fzl z c m r)) (nI 0)
  | 0, c, r, n + 1, hc, hk, hn => by
    refine ⟨n, by omega, ?_⟩
    have e : c = 30 := by omega
    subst e
    show fb_X0_passDay_1 (nI z) t w (fl_X0_passDay (nI z) t w n) (enc r) (nI 30) = _
    unfold fb_X0_passDay_1
    rw [if_pos (by decide)]
    rfl
  | m + 1, c, r, n + 1, hc, hk, hn => by
    show ∃ n', _ ∧ fb_X0_passDay_1 (nI z) t w (fl_X0_passDay (nI z) t w n) (enc r) (nI c) = _
    unfold fb_X0_passDay_1
    have h30 : ¬ 30 ≤ c := by omega
    have e1 : nI c + 1 = nI (c + 1) := add_nI c 1
    have e4 : (4 : Int32) + nI c = nI (4 + c) := add_nI 4 c
    rw [show (30 : Int32) = nI 30 from rfl, if_neg (fun x => h30 ((le_nI (by omega) (by omega)).mp x)), cl_nI (by omega), enc_lo (by omega), e4, e1]
    show ∃ n', _ ∧ _ = fl_X0_passDay (nI z) t w n' 2 (enc (if r (35 * z + 2) < nI (4 + c) then r else fzl z (c + 1) m (if fR r z c then r else fz1 r z c))) (nI 0)
    by_cases hcd : r (35 * z + 2) < nI (4 + c)
    · rw [if_pos hcd, if_pos hcd]
      exact ⟨n, by omega, rfl⟩
    · rw [if_neg hcd, if_neg hcd, E2_isFrozen hz (by omega), Option.bind_some]
      cases hf : fR r z c with
      | true =>
        obtain ⟨n', h1, h2⟩ := X0_day1 (t := t) (w := w) hz m (c + 1) r n (by omega) hk (by omega)
        rw [b2i_t, if_neg i10, h2, if_pos rfl]
        exact ⟨n', by omega, rfl⟩
      | false =>
        have hk' : dk (fz1 r z c) pm := fz1_dk hz (by omega) hk
        obtain ⟨n', h1, h2⟩ := X0_day1 (t := t) (w := w) hz m (c + 1) (fz1 r z c) n (by omega) hk' (by omega)
        rw [b2i_f, if_pos rfl, enc_upl (by omega), X0_freeze (m := pm) hz (by omega) (by rw [pk_un (by omega)]; exact hk.1) hk.2.1 (by rw [pk_un (by omega)]; exact hk.2.2), Option.bind_some]
        rw [show S_fz (upd r (35 * z + 2) (r (35 * z + 2) - nI (4 + c))) z c = fz1 r z c from rfl, h2, if_neg (by decide)]
        exact ⟨n', by omega, rfl⟩
theorem X0_day2 {z pm : Nat} {t w : Int32} (hz : z < 4) : ∀ m c r n, c + m = 30 → dk r pm → m < n → ∃ n', n ≤ n' + m + 1 ∧ fl_X0_passDay (nI z) t w n 2 (enc r) (nI c) = fl_X0_passDay (nI z) t w n' 3 (enc (thl z c m r)) (nI 0)
  | 0, c, r, n + 1, hc, hk, hn => by
    refine ⟨n, by omega, ?_⟩
    have e : c = 30 := by omega
    subst e
    show fb_X0_passDay_2 (nI z) t w (fl_X0_passDay (nI z) t w n) (enc r) (nI 30) = _
    unfold fb_X0_passDay_2
    rw [if_pos (by decide)]
    rfl
  | m + 1, c, r, n + 1, hc, hk, hn => by
    show ∃ n', _ ∧ fb_X0_passDay_2 (nI z) t w (fl_X0_passDay (nI z) t w n) (enc r) (nI c) = _
    unfold fb_X0_passDay_2
    have h30 : ¬ 30 ≤ c := by omega
    have e1 : nI c + 1 = nI (c + 1) := add_nI c 1
    have e4 : (3 : Int32) + nI c = nI (3 + c) := add_nI 3 c
    rw [show (30 : Int32) = nI 30 from rfl, if_neg (fun x => h30 ((le_nI (by omega) (by omega)).mp x)), cl_nI (by omega), enc_lo (by omega), e4, e1]
    show ∃ n', _ ∧ _ = fl_X0_passDay (nI z) t w n' 3 (enc (if r (35 * z + 3) < nI (3 + c) then r else thl z (c + 1) m (if fR r z c then th1 r z c else r))) (nI 0)
    by_cases hcd : r (35 * z + 3) < nI (3 + c)
    · rw [if_pos hcd, if_pos hcd]
      exact ⟨n, by omega, rfl⟩
    · rw [if_neg hcd, if_neg hcd, E2_isFrozen hz (by omega), Option.bind_some]
      cases hf : fR r z c with
      | false =>
        obtain ⟨n', h1, h2⟩ := X0_day2 (t := t) (w := w) hz m (c + 1) r n (by omega) hk (by omega)
        rw [b2i_f, if_pos rfl, h2, if_neg (by decide)]
        exact ⟨n', by omega, rfl⟩
      | true =>
        have hk' : dk (th1 r z c) pm := th1_dk hz (by omega) hk
        obtain ⟨n', h1, h2⟩ := X0_day2 (t := t) (w := w) hz m (c + 1) (th1 r z c) n (by omega) hk' (by omega)
        rw [b2i_t, if_neg i10, enc_upl (by omega), X0_thaw (m := pm) hz (by omega) (by rw [pk_un (by omega)]; exact hk.1) hk.2.1, Option.bind_some]
        rw [show S_th (upd r (35 * z + 3) (r (35 * z + 3) - nI (3 + c))) z c = th1 r z c from rfl, h2, if_pos rfl]
        exact ⟨n', by omega, rfl⟩
theorem fzl_dk {z pm : Nat} (hz : z < 4) : ∀ m c r, c + m ≤ 30 → dk r pm → dk (fzl z c m r) pm
  | 0, _, _, _, h => h
  | m + 1, c, r, hc, h => by
    show dk (if r (35 * z + 2) < nI (4 + c) then r else fzl z (c + 1) m (if fR r z c then r else fz1 r z c)) pm
    split
    · exact h
    · apply fzl_dk hz m (c + 1) _ (by omega)
      split
      · exact h
      · exact fz1_dk hz (by omega) h
theorem thl_dk {z pm : Nat} (hz : z < 4) : ∀ m c r, c + m ≤ 30 → dk r pm → dk (thl z c m r) pm
  | 0, _, _, _, h => h
  | m + 1, c, r, hc, h => by
    show dk (if r (35 * z + 3) < nI (3 + c) then r else thl z (c + 1) m (if fR r z c then th1 r z c else r)) pm
    split
    · exact h
    · apply thl_dk hz m (c + 1) _ (by omega)
      split
      · exact th1_dk hz (by omega) h
      · exact h
theorem X0_day3 {z pm n : Nat} {t w : Int32} {r : Row} (hz : z < 4) (hk : dk r pm) (v : Int32) : fl_X0_passDay (nI z) t w (n + 1) 3 (enc r) v = some (enc (S_ls r z)) := by
  show fb_X0_passDay_3 (nI z) t w (fl_X0_passDay (nI z) t w n) (enc r) v = _
  unfold fb_X0_passDay_3 S_ls
  have e0 : (202 + (0 : Int32).toNatClampNeg) = 202 := rfl
  rw [cl_nI (by omega), show (30 : Int32) = nI 30 from rfl, E2_lowestWithin hz (by omega), Option.bind_some, e0, enc_hi (by omega), enc_hi (by omega)]
  by_cases h1 : r 202 ≤ 0
  · rw [if_pos h1, if_pos h1]
  · rw [if_neg h1, if_neg h1, if_neg (fun e => h1 (by rw [e]; decide))]
    by_cases h2 : r 199 - r 199 / r 202 * r 202 = 0
    · rw [if_pos h2, if_pos h2]
      rcases ld_or (fR r z) 30 with ⟨h3, _⟩ | ⟨c, hc, h3, _⟩
      · rw [if_pos h3, if_pos h3]
      · rw [h3, if_neg (m1_ne (by omega)), if_neg (m1_ne (by omega)), cl_nI (by omega), X0_thaw hz hc hk.1 hk.2.1]
        rfl
    · rw [if_neg h2, if_neg h2]
theorem S_wt_hi {r : Row} {z k : Nat} {t w : Int32} (hz : z < 4) (hk : 140 ≤ k) : S_wt r z t w k = r k := by
  unfold S_wt
  split
  · split
    · rw [pk_un (by omega)]
    · rw [pk_un (by omega), pk_un (by omega), pk_un (by omega), pk_un (by omega)]
  · split
    · rw [pk_un (by omega), pk_un (by omega), pk_un (by omega)]
    · rw [pk_un (by omega), pk_un (by omega)]
theorem S_wt_dk {r : Row} {z pm : Nat} {t w : Int32} (hz : z < 4) (h : dk r pm) : dk (S_wt r z t w) pm := by
  unfold dk
  rw [S_wt_hi hz (by omega), S_wt_hi hz (by omega)]
  exact h
theorem X0_passDay {r : Row} {z pm w' : Nat} {t : Int32} (hz : z < 4) (hk : dk r pm) (hs : sw r z) (hr : rt r) (ht : dg t) (hw : w' ≤ 30) : f_X0_passDay (enc r) (nI z) t (nI w') = some (enc (S_ds r z t (nI w'))) := by
  have h0 := X0_weather hz hs hr ht hw
  obtain ⟨n1, a1, b1⟩ := X0_day1 (t := t) (w := nI w') hz 30 0 (S_wt r z t (nI w')) FU (by omega) (S_wt_dk hz hk) (fu_lt (by omega))
  have hfu : FU = 1000000000 := rfl
  obtain ⟨n2, a2, b2⟩ := X0_day2 (t := t) (w := nI w') hz 30 0 (fzl z 0 30 (S_wt r z t (nI w'))) n1 (by omega) (fzl_dk hz 30 0 _ (by omega) (S_wt_dk hz hk)) (by omega)
  obtain ⟨n3, rfl⟩ : ∃ n3, n2 = n3 + 1 := ⟨n2 - 1, by omega⟩
  unfold f_X0_passDay
  rw [if_neg (by rw [oob_nI (by omega)]; omega), cl_nI (by omega)]
  have e1 : (202 + (1 : Int32).toNatClampNeg) = 203 := rfl
  rw [e1]
  rw [X2_takeSnow, Option.bind_some] at h0 ⊢
  rw [h0, Option.bind_some]
  have e0 : (0 : Int32) = nI 0 := rfl
  rw [e0, b1, b2, X0_day3 hz (thl_dk hz 30 0 _ (by omega) (fzl_dk hz 30 0 _ (by omega) (S_wt_dk hz hk)))]
  rfl
