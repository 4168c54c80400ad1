/-! the two sides' rows: the class's cells say -1 where the reference's say 0 -/
theorem loop_itrI {σ R : Type} (P : σ → Prop) (L : Nat → σ → Nat → Option R) (f : Nat → σ → σ) (fin : σ → Option R) (E : Nat) (hP : ∀ k s, k < E → P s → P (f k s)) (h0 : ∀ n s, P s → L (n + 1) s E = fin s) (h1 : ∀ n s k, k < E → P s → L (n + 1) s k = L n (f k s) (k + 1)) : ∀ m n k s, P s → m < n → k + m = E → L n s k = fin (itr f k m s)
  | 0, n + 1, k, s, hs, _, hk => by
    have e : k = E := by omega
    subst e
    exact h0 n s hs
  | m + 1, n + 1, k, s, hs, hn, hk => by
    rw [h1 n s k (by omega) hs]
    exact loop_itrI P L f fin E hP h0 h1 m n (k + 1) (f k s) (hP k s (by omega) hs) (by omega) (by omega)
theorem itr_rng {σ : Type} {f : Nat → σ → σ} (P : σ → Prop) : ∀ m k s, (∀ j s, k ≤ j → j < k + m → P s → P (f j s)) → P s → P (itr f k m s)
  | 0, _, _, _, hs => hs
  | m + 1, k, s, h, hs => itr_rng P m (k + 1) _ (fun j s a b c => h j s (by omega) (by omega) c) (h k s (Nat.le_refl _) (by omega) hs)
theorem itr_two {σ τ : Type} {f : Nat → σ → σ} {g : Nat → τ → τ} (P : σ → τ → Prop) : ∀ m k s t, (∀ j s t, k ≤ j → j < k + m → P s t → P (f j s) (g j t)) → P s t → P (itr f k m s) (itr g k m t)
  | 0, _, _, _, _, hs => hs
  | m + 1, k, s, t, h, hs => itr_two P m (k + 1) _ _ (fun j s t a b c => h j s t (by omega) (by omega) c) (h k s t (Nat.le_refl _) (by omega) hs)
theorem itr_comm {σ τ : Type} {f : Nat → σ → σ} {g : Nat → τ → τ} (U : σ → τ) (m k : Nat) (s : σ) (h : ∀ j s, k ≤ j → j < k + m → g j (U s) = U (f j s)) : itr g k m (U s) = U (itr f k m s) :=
  itr_two (f := g) (g := f) (fun a b => a = U b) m k (U s) s (fun j s t a b c => by rw [c]; exact h j t a b) rfl
theorem upd_self (f : Row) (k : Nat) : upd f k (f k) = f := by
  funext j
  by_cases e : j = k
  · subst e; rw [pk_us]
  · rw [pk_un e]
theorem upd_id {f : Row} {k : Nat} {v : Int32} (h : f k = v) : upd f k v = f := by rw [← h, upd_self]
theorem upd_comm (f : Row) {j k : Nat} (h : j ≠ k) (a b : Int32) : upd (upd f j a) k b = upd (upd f k b) j a := by
  funext i
  by_cases e1 : i = k
  · subst e1; rw [pk_us, pk_un (Ne.symm h), pk_us]
  · rw [pk_un e1]
    by_cases e2 : i = j
    · subst e2; rw [pk_us, pk_us]
    · rw [pk_un e2, pk_un e2, pk_un e1]
theorem upd_two (f : Row) (k : Nat) (a b : Int32) : upd (upd f k a) k b = upd f k b := by
  funext i
  by_cases e : i = k
  · subst e; rw [pk_us, pk_us]
  · rw [pk_un e, pk_un e, pk_un e]
def isC (k : Nat) : Bool := decide (k < 140) && decide (5 ≤ k % 35)
def ecl (k : Nat) (v : Int32) : Int32 := if isC k then (if 0 < v then v else -1) else v
def enc (r : Row) : Row := fun k => ecl k (r k)
theorem isC_c {z c : Nat} (hz : z < 4) (hc : c < 30) : isC (35 * z + (5 + c)) = true := by
  unfold isC
  rw [decide_eq_true (by omega : 35 * z + (5 + c) < 140), decide_eq_true (by omega : 5 ≤ (35 * z + (5 + c)) % 35)]
  rfl
theorem isC_lo {z j : Nat} (hj : j < 5) : isC (35 * z + j) = false := by
  unfold isC
  rw [decide_eq_false (by omega : ¬ 5 ≤ (35 * z + j) % 35), Bool.and_false]
theorem isC_hi {k : Nat} (h : 140 ≤ k) : isC k = false := by
  unfold isC
  rw [decide_eq_false (by omega : ¬ k < 140), Bool.false_and]
theorem enc_n {r : Row} {k : Nat} (h : isC k = false) : enc r k = r k := by simp only [enc, ecl, h, Bool.false_eq_true, if_false]
theorem enc_c {r : Row} {k : Nat} (h : isC k = true) : enc r k = if 0 < r k then r k else -1 := by simp only [enc, ecl, h, if_true]
theorem enc_hi {r : Row} {k : Nat} (h : 140 ≤ k) : enc r k = r k := enc_n (isC_hi h)
theorem enc_lo {r : Row} {z j : Nat} (h : j < 5) : enc r (35 * z + j) = r (35 * z + j) := enc_n (isC_lo h)
theorem enc_l0 {r : Row} {z : Nat} : enc r (35 * z) = r (35 * z) := enc_n (isC_lo (j := 0) (by omega))
theorem enc_up {r : Row} {k : Nat} {v : Int32} (h : isC k = false) : upd (enc r) k v = enc (upd r k v) := by
  funext j
  by_cases e : j = k
  · subst e; rw [pk_us, enc_n h, pk_us]
  · rw [pk_un e]
    unfold enc
    rw [pk_un e]
theorem enc_uph {r : Row} {k : Nat} {v : Int32} (h : 140 ≤ k) : upd (enc r) k v = enc (upd r k v) := enc_up (isC_hi h)
theorem enc_upl {r : Row} {z j : Nat} {v : Int32} (h : j < 5) : upd (enc r) (35 * z + j) v = enc (upd r (35 * z + j) v) := enc_up (isC_lo h)
theorem enc_up0 {r : Row} {z : Nat} {v : Int32} : upd (enc r) (35 * z) v = enc (upd r (35 * z) v) := enc_up (isC_lo (j := 0) (by omega))
theorem enc_upc {r : Row} {k : Nat} {v w : Int32} (h : isC k = true) (hw : w = if 0 < v then v else -1) : upd (enc r) k w = enc (upd r k v) := by
  funext j
  by_cases e : j = k
  · subst e; rw [pk_us, enc_c h, pk_us, hw]
  · rw [pk_un e]
    unfold enc
    rw [pk_un e]
theorem pos_ne_m1 {v : Int32} (h : 0 < v) : ¬ v = -1 := fun e => by
  rw [e] at h
  exact absurd h (by decide)
theorem fC_enc {r : Row} {z c : Nat} (hz : z < 4) (hc : c < 30) : fC (enc r) z c = fR r z c := by
  unfold fC fR
  rw [enc_c (isC_c hz hc)]
  by_cases h : 0 < r (35 * z + (5 + c))
  · rw [if_pos h, decide_eq_false (pos_ne_m1 h), decide_eq_true h]
    rfl
  · rw [if_neg h, decide_eq_false h]
    rfl
theorem bgn_congr {p q : Nat → Bool} {c : Nat} (h : p c = q c) (h2 : p (c - 1) = q (c - 1)) : bgn p c = bgn q c := by
  unfold bgn
  rw [h, h2]
theorem bgn_enc {r : Row} {z c : Nat} (hz : z < 4) (hc : c < 30) : bgn (fC (enc r) z) c = bgn (fR r z) c := bgn_congr (fC_enc hz hc) (fC_enc hz (by omega))
theorem E2_isFrozen {r : Row} {z c : Nat} (hz : z < 4) (hc : c < 30) : f_X2_isFrozen (enc r) z (nI c) = some (b2i (fR r z c)) := by
  rw [X2_isFrozen hc, fC_enc hz hc]
theorem E2_frozenWithin {r : Row} {z e : Nat} (hz : z < 4) (he : e ≤ 30) : f_X2_frozenWithin (enc r) z (nI e) = some (nI (cf (fR r z) 0 e)) := by
  rw [X2_frozenWithin he, cf_congr e 0 (fun j _ h => fC_enc (r := r) hz (by omega : j < 30))]
theorem E2_layersWithin {r : Row} {z e : Nat} (hz : z < 4) (he : e ≤ 30) : f_X2_layersWithin (enc r) z (nI e) = some (nI (cf (bgn (fR r z)) 0 e)) := by
  rw [X2_layersWithin he, cf_congr e 0 (fun j _ h => bgn_enc (r := r) hz (by omega : j < 30))]
theorem E2_lowestWithin {r : Row} {z e : Nat} (hz : z < 4) (he : e ≤ 30) : f_X2_lowestWithin (enc r) z (nI e) = some (ld (fR r z) e) := by
  rw [X2_lowestWithin he, ld_congr e (fun j h => fC_enc (r := r) hz (by omega : j < 30))]
/-! freezing and thawing of one cell, with the pipes there -/
def mx (a b : Int32) : Int32 := if b < a then a else b
def mn (a b : Int32) : Int32 := if b ≤ a then b else a
theorem mx_le (a b : Int32) : (if a ≤ b then b else a) = mx a b := by
  unfold mx
  by_cases h : a ≤ b
  · rw [if_pos h, if_neg (Int32.not_lt.mpr h)]
  · rw [if_neg h, if_pos (Int32.not_le.mp h)]
theorem mn_lt (a b : Int32) : (if b < a then b else a) = mn a b := by
  unfold mn
  by_cases h : b < a
  · rw [if_pos h, if_pos (Int32.le_of_lt h)]
  · rw [if_neg h]
    by_cases h2 : b ≤ a
    · rw [if_pos h2]
      exact Int32.le_antisymm (Int32.not_lt.mp h) h2
    · rw [if_neg h2]
theorem mn_lt2 (a b : Int32) : (if a < b then a else b) = mn a b := by
  unfold mn
  by_cases h : a < b
  · rw [if_pos h, if_neg (Int32.not_le.mpr h)]
  · rw [if_neg h, if_pos (Int32.not_lt.mp h)]
def p3 (r : Row) (p : Nat) : Row := upd (upd (upd r (158 + 5 * p) (r (158 + 5 * p) + r 204)) (159 + 5 * p) (mx (r (158 + 5 * p) + r 204) (r (159 + 5 * p)))) (160 + 5 * p) (r (160 + 5 * p) + 1)
def fzs (z c : Nat) (p : Nat) (r : Row) : Row := if r (156 + 5 * p) = nI z ∧ r (157 + 5 * p) = nI c then p3 r p else r
def ths (z c : Nat) (p : Nat) (r : Row) : Row := if r (156 + 5 * p) = nI z ∧ r (157 + 5 * p) = nI c then upd r (158 + 5 * p) (r (158 + 5 * p) - r (158 + 5 * p) / 2) else r
def pn (r : Row) : Nat := min 8 (r 198).toNatClampNeg
def S_fz (r : Row) (z c : Nat) : Row := itr (fzs z c) 0 (pn r) (upd r (35 * z + (5 + c)) (r 199))
def S_th (r : Row) (z c : Nat) : Row := itr (ths z c) 0 (pn r) (upd r (35 * z + (5 + c)) 0)
/-- the places that the pipes' steps leave alone -/
def st (k : Nat) : Prop := k < 156 ∨ 196 ≤ k ∨ (k - 156) % 5 < 2
theorem fzs_st {z c p k : Nat} {r : Row} (hp : p < 8) (hk : st k) : fzs z c p r k = r k := by
  unfold fzs
  by_cases h : r (156 + 5 * p) = nI z ∧ r (157 + 5 * p) = nI c
  · rw [if_pos h]
    unfold st at hk
    unfold p3
    rw [pk_un (by omega), pk_un (by omega), pk_un (by omega)]
  · rw [if_neg h]
theorem ths_st {z c p k : Nat} {r : Row} (hp : p < 8) (hk : st k) : ths z c p r k = r k := by
  unfold ths
  by_cases h : r (156 + 5 * p) = nI z ∧ r (157 + 5 * p) = nI c
  · rw [if_pos h]
    unfold st at hk
    rw [pk_un (by omega)]
  · rw [if_neg h]
theorem pn_le (r : Row) : pn r ≤ 8 := Nat.min_le_left _ _
theorem pn_of {r : Row} {m : Nat} (h : r 198 = nI m) (hm : m ≤ 8) : pn r = m := by
  unfold pn
  rw [h, cl_nI (by omega)]
  omega
theorem fz_st {r : Row} {z c k : Nat} (hk : st k) : S_fz r z c k = upd r (35 * z + (5 + c)) (r 199) k := by
  have := pn_le r
  exact itr_rng (fun s : Row => s k = upd r (35 * z + (5 + c)) (r 199) k) (pn r) 0 _ (fun j s _ h2 h3 => by rw [fzs_st (by omega) hk, h3]) rfl
theorem th_st {r : Row} {z c k : Nat} (hk : st k) : S_th r z c k = upd r (35 * z + (5 + c)) 0 k := by
  have := pn_le r
  exact itr_rng (fun s : Row => s k = upd r (35 * z + (5 + c)) 0 k) (pn r) 0 _ (fun j s _ h2 h3 => by rw [ths_st (by omega) hk, h3]) rfl
theorem fz_cell {r : Row} {z c : Nat} (hz : z < 4) (hc : c < 30) : S_fz r z c (35 * z + (5 + c)) = r 199 := by
  rw [fz_st (Or.inl (by omega)), pk_us]
theorem th_cell {r : Row} {z c : Nat} (hz : z < 4) (hc : c < 30) : S_th r z c (35 * z + (5 + c)) = 0 := by
  rw [th_st (Or.inl (by omega)), pk_us]
theorem fz_off {r : Row} {z c k : Nat} (hk : st k) (h : k ≠ 35 * z + (5 + c)) : S_fz r z c k = r k := by rw [fz_st hk, pk_un h]
theorem th_off {r : Row} {z c k : Nat} (hk : st k) (h : k ≠ 35 * z + (5 + c)) : S_th r z c k = r k := by rw [th_st hk, pk_un h]
theorem X5_freeze {r : Row} {z c m : Nat} (hz : z < 4) (hc : c < 30) (h8 : r 198 = nI m) (hm : m ≤ 8) : f_X5_freeze r (nI z) (nI c) = some (S_fz r z c) := by
  have h := loop_itrI (fun s : Row => s 198 = nI m) (fun n s k => fl_X5_freeze (nI z) (nI c) n s (nI k)) (fzs z c) (fun s => some s) m
    (fun k s hk hs => by rw [fzs_st (by omega) (Or.inr (Or.inl (by omega)))]; exact hs)
    (fun n s hs => by
      show fb_X5_freeze_1 (nI z) (nI c) (fl_X5_freeze (nI z) (nI c) n) s (nI m) = _
      unfold fb_X5_freeze_1
      simp (maxSteps := 2000000) (disch := omega) only [↓Lm1, L0, L1, L2, L3, L4, L5, L6, L7, L8, L9, L10, L11, L12, L14, L15, L16, L20, L21, L29, L30, L31, L32, L35, L45, L48, L50, L60, L68, L97, L99, L100, L101, L102, L112, L115, L116, L119, L120, L128, L140, L156, L196, L197, L198, L199, L200, L201, L202, L203, L204, L205, L255, L400, L410, L1000, L2665, L2870, L9999, L10000, L100000, L1000000, le_nI, lt_nI, eq_nI, oob_nI, cl_nI, sub_nI, add_nI, mul_nI, b2i_t2, b2i_f2, n10, n01, em1, em2, lm1, lm2, lm3, lm4, if_true, if_false, Option.bind_some, Nat.add_zero, Bool.false_eq_true, not_true, not_false_eq_true, hs, Nat.le_refl, if_true])
    (fun n s k hk hs => by
      have hmk : ¬ m ≤ k := by omega
      have q0 : ¬ 205 ≤ 156 + 5 * k := by omega
      have q1 : ¬ 205 ≤ 157 + 5 * k := by omega
      have q2 : ¬ 205 ≤ 158 + 5 * k := by omega
      have q3 : ¬ 205 ≤ 159 + 5 * k := by omega
      have q4 : ¬ 205 ≤ 160 + 5 * k := by omega
      have e1 : 156 + 5 * k + 1 = 157 + 5 * k := by omega
      have e2 : 156 + 5 * k + 2 = 158 + 5 * k := by omega
      have e3 : 156 + 5 * k + 3 = 159 + 5 * k := by omega
      have e4 : 156 + 5 * k + 4 = 160 + 5 * k := by omega
      show fb_X5_freeze_1 (nI z) (nI c) (fl_X5_freeze (nI z) (nI c) n) s (nI k) = _
      unfold fb_X5_freeze_1 fzs p3
      by_cases hA : s (156 + 5 * k) = nI z
      · by_cases hB : s (157 + 5 * k) = nI c
        · by_cases hC : s (158 + 5 * k) + s 204 ≤ s (159 + 5 * k)
          · simp (maxSteps := 2000000) (disch := omega) only [↓Lm1, L0, L1, L2, L3, L4, L5, L6, L7, L8, L9, L10, L11, L12, L14, L15, L16, L20, L21, L29, L30, L31, L32, L35, L45, L48, L50, L60, L68, L97, L99, L100, L101, L102, L112, L115, L116, L119, L120, L128, L140, L156, L196, L197, L198, L199, L200, L201, L202, L203, L204, L205, L255, L400, L410, L1000, L2665, L2870, L9999, L10000, L100000, L1000000, le_nI, lt_nI, eq_nI, oob_nI, cl_nI, sub_nI, add_nI, mul_nI, b2i_t2, b2i_f2, n10, n01, em1, em2, lm1, lm2, lm3, lm4, if_true, if_false, Option.bind_some, Nat.add_zero, Bool.false_eq_true, not_true, not_false_eq_true, hs, hmk, q0, q1, q2, q3, q4, e1, e2, e3, e4, hA, hB, hC, upd_at, upd_off, if_true, if_false, and_self, ← mx_le]
          · simp (maxSteps := 2000000) (disch := omega) only [↓Lm1, L0, L1, L2, L3, L4, L5, L6, L7, L8, L9, L10, L11, L12, L14, L15, L16, L20, L21, L29, L30, L31, L32, L35, L45, L48, L50, L60, L68, L97, L99, L100, L101, L102, L112, L115, L116, L119, L120, L128, L140, L156, L196, L197, L198, L199, L200, L201, L202, L203, L204, L205, L255, L400, L410, L1000, L2665, L2870, L9999, L10000, L100000, L1000000, le_nI, lt_nI, eq_nI, oob_nI, cl_nI, sub_nI, add_nI, mul_nI, b2i_t2, b2i_f2, n10, n01, em1, em2, lm1, lm2, lm3, lm4, if_true, if_false, Option.bind_some, Nat.add_zero, Bool.false_eq_true, not_true, not_false_eq_true, hs, hmk, q0, q1, q2, q3, q4, e1, e2, e3, e4, hA, hB, hC, upd_at, upd_off, if_true, if_false, and_self, ← mx_le]
        · simp (maxSteps := 2000000) (disch := omega) only [↓Lm1, L0, L1, L2, L3, L4, L5, L6, L7, L8, L9, L10, L11, L12, L14, L15, L16, L20, L21, L29, L30, L31, L32, L35, L45, L48, L50, L60, L68, L97, L99, L100, L101, L102, L112, L115, L116, L119, L120, L128, L140, L156, L196, L197, L198, L199, L200, L201, L202, L203, L204, L205, L255, L400, L410, L1000, L2665, L2870, L9999, L10000, L100000, L1000000, le_nI, lt_nI, eq_nI, oob_nI, cl_nI, sub_nI, add_nI, mul_nI, b2i_t2, b2i_f2, n10, n01, em1, em2, lm1, lm2, lm3, lm4, if_true, if_false, Option.bind_some, Nat.add_zero, Bool.false_eq_true, not_true, not_false_eq_true, hs, hmk, q0, q1, q2, q3, q4, e1, e2, e3, e4, hA, hB, if_true, if_false, and_false]
      · simp (maxSteps := 2000000) (disch := omega) only [↓Lm1, L0, L1, L2, L3, L4, L5, L6, L7, L8, L9, L10, L11, L12, L14, L15, L16, L20, L21, L29, L30, L31, L32, L35, L45, L48, L50, L60, L68, L97, L99, L100, L101, L102, L112, L115, L116, L119, L120, L128, L140, L156, L196, L197, L198, L199, L200, L201, L202, L203, L204, L205, L255, L400, L410, L1000, L2665, L2870, L9999, L10000, L100000, L1000000, le_nI, lt_nI, eq_nI, oob_nI, cl_nI, sub_nI, add_nI, mul_nI, b2i_t2, b2i_f2, n10, n01, em1, em2, lm1, lm2, lm3, lm4, if_true, if_false, Option.bind_some, Nat.add_zero, Bool.false_eq_true, not_true, not_false_eq_true, hs, hmk, q0, q1, q2, q3, q4, e1, e2, e3, e4, hA, if_true, if_false, false_and]) m FU 0 (upd r (35 * z + (5 + c)) (r 199)) (by rw [pk_un (by omega)]; exact h8) (fu_lt (by omega)) (by omega)
  unfold f_X5_freeze S_fz
  rw [X5_cell, Option.bind_some, if_neg (by rw [oob_nI (by omega)]; omega), cl_nI (by omega), pn_of h8 hm]
  exact h
theorem X5_thaw {r : Row} {z c m : Nat} (hz : z < 4) (hc : c < 30) (h8 : r 198 = nI m) (hm : m ≤ 8) : f_X5_thaw r (nI z) (nI c) = some (S_th r z c) := by
  have h := loop_itrI (fun s : Row => s 198 = nI m) (fun n s k => fl_X5_thaw (nI z) (nI c) n s (nI k)) (ths z c) (fun s => some s) m
    (fun k s hk hs => by rw [ths_st (by omega) (Or.inr (Or.inl (by omega)))]; exact hs)
    (fun n s hs => by
      show fb_X5_thaw_1 (nI z) (nI c) (fl_X5_thaw (nI z) (nI c) n) s (nI m) = _
      unfold fb_X5_thaw_1
      simp (maxSteps := 2000000) (disch := omega) only [↓Lm1, L0, L1, L2, L3, L4, L5, L6, L7, L8, L9, L10, L11, L12, L14, L15, L16, L20, L21, L29, L30, L31, L32, L35, L45, L48, L50, L60, L68, L97, L99, L100, L101, L102, L112, L115, L116, L119, L120, L128, L140, L156, L196, L197, L198, L199, L200, L201, L202, L203, L204, L205, L255, L400, L410, L1000, L2665, L2870, L9999, L10000, L100000, L1000000, le_nI, lt_nI, eq_nI, oob_nI, cl_nI, sub_nI, add_nI, mul_nI, b2i_t2, b2i_f2, n10, n01, em1, em2, lm1, lm2, lm3, lm4, if_true, if_false, Option.bind_some, Nat.add_zero, Bool.false_eq_true, not_true, not_false_eq_true, hs, Nat.le_refl, if_true])
    (fun n s k hk hs => by
      have hmk : ¬ m ≤ k := by omega
      have q0 : ¬ 205 ≤ 156 + 5 * k := by omega
      have q1 : ¬ 205 ≤ 157 + 5 * k := by omega
      have q2 : ¬ 205 ≤ 158 + 5 * k := by omega
      have e1 : 156 + 5 * k + 1 = 157 + 5 * k := by omega
      have e2 : 156 + 5 * k + 2 = 158 + 5 * k := by omega
      have s0 : ∀ x : Int32, x - nI 0 = x := fun x => Int32.sub_zero x
      show fb_X5_thaw_1 (nI z) (nI c) (fl_X5_thaw (nI z) (nI c) n) s (nI k) = _
      unfold fb_X5_thaw_1 ths
      by_cases hA : s (156 + 5 * k) = nI z
      · by_cases hB : s (157 + 5 * k) = nI c
        · simp (maxSteps := 2000000) (disch := omega) only [↓Lm1, L0, L1, L2, L3, L4, L5, L6, L7, L8, L9, L10, L11, L12, L14, L15, L16, L20, L21, L29, L30, L31, L32, L35, L45, L48, L50, L60, L68, L97, L99, L100, L101, L102, L112, L115, L116, L119, L120, L128, L140, L156, L196, L197, L198, L199, L200, L201, L202, L203, L204, L205, L255, L400, L410, L1000, L2665, L2870, L9999, L10000, L100000, L1000000, le_nI, lt_nI, eq_nI, oob_nI, cl_nI, sub_nI, add_nI, mul_nI, b2i_t2, b2i_f2, n10, n01, em1, em2, lm1, lm2, lm3, lm4, if_true, if_false, Option.bind_some, Nat.add_zero, Bool.false_eq_true, not_true, not_false_eq_true, hs, hmk, q0, q1, q2, e1, e2, hA, hB, if_true, if_false, and_self]
        · simp (maxSteps := 2000000) (disch := omega) only [↓Lm1, L0, L1, L2, L3, L4, L5, L6, L7, L8, L9, L10, L11, L12, L14, L15, L16, L20, L21, L29, L30, L31, L32, L35, L45, L48, L50, L60, L68, L97, L99, L100, L101, L102, L112, L115, L116, L119, L120, L128, L140, L156, L196, L197, L198, L199, L200, L201, L202, L203, L204, L205, L255, L400, L410, L1000, L2665, L2870, L9999, L10000, L100000, L1000000, le_nI, lt_nI, eq_nI, oob_nI, cl_nI, sub_nI, add_nI, mul_nI, b2i_t2, b2i_f2, n10, n01, em1, em2, lm1, lm2, lm3, lm4, if_true, if_false, Option.bind_some, Nat.add_zero, Bool.false_eq_true, not_true, not_false_eq_true, hs, hmk, q0, q1, q2, e1, e2, hA, hB, if_true, if_false, and_false, s0, upd_self]
      · simp (maxSteps := 2000000) (disch := omega) only [↓Lm1, L0, L1, L2, L3, L4, L5, L6, L7, L8, L9, L10, L11, L12, L14, L15, L16, L20, L21, L29, L30, L31, L32, L35, L45, L48, L50, L60, L68, L97, L99, L100, L101, L102, L112, L115, L116, L119, L120, L128, L140, L156, L196, L197, L198, L199, L200, L201, L202, L203, L204, L205, L255, L400, L410, L1000, L2665, L2870, L9999, L10000, L100000, L1000000, le_nI, lt_nI, eq_nI, oob_nI, cl_nI, sub_nI, add_nI, mul_nI, b2i_t2, b2i_f2, n10, n01, em1, em2, lm1, lm2, lm3, lm4, if_true, if_false, Option.bind_some, Nat.add_zero, Bool.false_eq_true, not_true, not_false_eq_true, hs, hmk, q0, q1, q2, e1, e2, hA, if_true, if_false, false_and, s0, upd_self]) m FU 0 (upd r (35 * z + (5 + c)) 0) (by rw [pk_un (by omega)]; exact h8) (fu_lt (by omega)) (by omega)
  unfold f_X5_thaw S_th
  rw [X5_cell, Option.bind_some, if_neg (by rw [oob_nI (by omega)]; omega), cl_nI (by omega), pn_of h8 hm]
  exact h
theorem X0_freeze {r : Row} {z c m : Nat} (hz : z < 4) (hc : c < 30) (h8 : r 198 = nI m) (hm : m ≤ 8) (hd : 0 < r 199) : f_X0_freeze (enc r) (nI z) (nI c) = some (enc (S_fz r z c)) := by
  have h := loop_itrI (fun s : Row => s 198 = nI m) (fun n s k => fl_X0_freeze (nI z) (nI c) n (enc s) (nI k)) (fzs z c) (fun s => some (enc s)) m
    (fun k s hk hs => by rw [fzs_st (by omega) (Or.inr (Or.inl (by omega)))]; exact hs)
    (fun n s hs => by
      show fb_X0_freeze_1 (nI z) (nI c) (fl_X0_freeze (nI z) (nI c) n) (enc s) (nI m) = _
      unfold fb_X0_freeze_1
      simp (maxSteps := 2000000) (disch := omega) only [↓Lm1, L0, L1, L2, L3, L4, L5, L6, L7, L8, L9, L10, L11, L12, L14, L15, L16, L20, L21, L29, L30, L31, L32, L35, L45, L48, L50, L60, L68, L97, L99, L100, L101, L102, L112, L115, L116, L119, L120, L128, L140, L156, L196, L197, L198, L199, L200, L201, L202, L203, L204, L205, L255, L400, L410, L1000, L2665, L2870, L9999, L10000, L100000, L1000000, le_nI, lt_nI, eq_nI, oob_nI, cl_nI, sub_nI, add_nI, mul_nI, b2i_t2, b2i_f2, n10, n01, em1, em2, lm1, lm2, lm3, lm4, if_true, if_false, Option.bind_some, Nat.add_zero, Bool.false_eq_true, not_true, not_false_eq_true, enc_hi, hs, Nat.le_refl, if_true])
    (fun n s k hk hs => by
      have hmk : ¬ m ≤ k := by omega
      have q0 : ¬ 8 ≤ k := by omega
      have e4 : 202 + 2 = 204 := rfl
      show fb_X0_freeze_1 (nI z) (nI c) (fl_X0_freeze (nI z) (nI c) n) (enc s) (nI k) = _
      unfold fb_X0_freeze_1 fzs p3 mx
      by_cases hA : s (156 + 5 * k) = nI z
      · by_cases hB : s (157 + 5 * k) = nI c
        · simp (maxSteps := 2000000) (disch := omega) only [↓Lm1, L0, L1, L2, L3, L4, L5, L6, L7, L8, L9, L10, L11, L12, L14, L15, L16, L20, L21, L29, L30, L31, L32, L35, L45, L48, L50, L60, L68, L97, L99, L100, L101, L102, L112, L115, L116, L119, L120, L128, L140, L156, L196, L197, L198, L199, L200, L201, L202, L203, L204, L205, L255, L400, L410, L1000, L2665, L2870, L9999, L10000, L100000, L1000000, le_nI, lt_nI, eq_nI, oob_nI, cl_nI, sub_nI, add_nI, mul_nI, b2i_t2, b2i_f2, n10, n01, em1, em2, lm1, lm2, lm3, lm4, if_true, if_false, Option.bind_some, Nat.add_zero, Bool.false_eq_true, not_true, not_false_eq_true, enc_hi, enc_uph, hs, hmk, q0, e4, hA, hB, upd_at, upd_off, if_true, if_false, and_self]
        · simp (maxSteps := 2000000) (disch := omega) only [↓Lm1, L0, L1, L2, L3, L4, L5, L6, L7, L8, L9, L10, L11, L12, L14, L15, L16, L20, L21, L29, L30, L31, L32, L35, L45, L48, L50, L60, L68, L97, L99, L100, L101, L102, L112, L115, L116, L119, L120, L128, L140, L156, L196, L197, L198, L199, L200, L201, L202, L203, L204, L205, L255, L400, L410, L1000, L2665, L2870, L9999, L10000, L100000, L1000000, le_nI, lt_nI, eq_nI, oob_nI, cl_nI, sub_nI, add_nI, mul_nI, b2i_t2, b2i_f2, n10, n01, em1, em2, lm1, lm2, lm3, lm4, if_true, if_false, Option.bind_some, Nat.add_zero, Bool.false_eq_true, not_true, not_false_eq_true, enc_hi, hs, hmk, q0, hA, hB, if_true, if_false, and_false]
      · simp (maxSteps := 2000000) (disch := omega) only [↓Lm1, L0, L1, L2, L3, L4, L5, L6, L7, L8, L9, L10, L11, L12, L14, L15, L16, L20, L21, L29, L30, L31, L32, L35, L45, L48, L50, L60, L68, L97, L99, L100, L101, L102, L112, L115, L116, L119, L120, L128, L140, L156, L196, L197, L198, L199, L200, L201, L202, L203, L204, L205, L255, L400, L410, L1000, L2665, L2870, L9999, L10000, L100000, L1000000, le_nI, lt_nI, eq_nI, oob_nI, cl_nI, sub_nI, add_nI, mul_nI, b2i_t2, b2i_f2, n10, n01, em1, em2, lm1, lm2, lm3, lm4, if_true, if_false, Option.bind_some, Nat.add_zero, Bool.false_eq_true, not_true, not_false_eq_true, enc_hi, hs, hmk, q0, hA, if_true, if_false, false_and]) m FU 0 (upd r (35 * z + (5 + c)) (r 199)) (by rw [pk_un (by omega)]; exact h8) (fu_lt (by omega)) (by omega)
  unfold f_X0_freeze S_fz
  rw [if_neg (by rw [oob_nI (by omega)]; omega), if_neg (by rw [oob_nI (by omega)]; omega), cl_nI (by omega), cl_nI (by omega), enc_hi (by omega), enc_upc (v := r 199) (isC_c hz hc) (by rw [if_pos hd]), pn_of h8 hm]
  exact h
theorem X0_thaw {r : Row} {z c m : Nat} (hz : z < 4) (hc : c < 30) (h8 : r 198 = nI m) (hm : m ≤ 8) : f_X0_thaw (enc r) (nI z) (nI c) = some (enc (S_th r z c)) := by
  have h := loop_itrI (fun s : Row => s 198 = nI m) (fun n s k => fl_X0_thaw (nI z) (nI c) n (enc s) (nI k)) (ths z c) (fun s => some (enc s)) m
    (fun k s hk hs => by rw [ths_st (by omega) (Or.inr (Or.inl (by omega)))]; exact hs)
    (fun n s hs => by
      show fb_X0_thaw_1 (nI z) (nI c) (fl_X0_thaw (nI z) (nI c) n) (enc s) (nI m) = _
      unfold fb_X0_thaw_1
      simp (maxSteps := 2000000) (disch := omega) only [↓Lm1, L0, L1, L2, L3, L4, L5, L6, L7, L8, L9, L10, L11, L12, L14, L15, L16, L20, L21, L29, L30, L31, L32, L35, L45, L48, L50, L60, L68, L97, L99, L100, L101, L102, L112, L115, L116, L119, L120, L128, L140, L156, L196, L197, L198, L199, L200, L201, L202, L203, L204, L205, L255, L400, L410, L1000, L2665, L2870, L9999, L10000, L100000, L1000000, le_nI, lt_nI, eq_nI, oob_nI, cl_nI, sub_nI, add_nI, mul_nI, b2i_t2, b2i_f2, n10, n01, em1, em2, lm1, lm2, lm3, lm4, if_true, if_false, Option.bind_some, Nat.add_zero, Bool.false_eq_true, not_true, not_false_eq_true, enc_hi, hs, Nat.le_refl, if_true])
    (fun n s k hk hs => by
      have hmk : ¬ m ≤ k := by omega
      have q0 : ¬ 8 ≤ k := by omega
      show fb_X0_thaw_1 (nI z) (nI c) (fl_X0_thaw (nI z) (nI c) n) (enc s) (nI k) = _
      unfold fb_X0_thaw_1 ths
      by_cases hA : s (156 + 5 * k) = nI z
      · by_cases hB : s (157 + 5 * k) = nI c
        · simp (maxSteps := 2000000) (disch := omega) only [↓Lm1, L0, L1, L2, L3, L4, L5, L6, L7, L8, L9, L10, L11, L12, L14, L15, L16, L20, L21, L29, L30, L31, L32, L35, L45, L48, L50, L60, L68, L97, L99, L100, L101, L102, L112, L115, L116, L119, L120, L128, L140, L156, L196, L197, L198, L199, L200, L201, L202, L203, L204, L205, L255, L400, L410, L1000, L2665, L2870, L9999, L10000, L100000, L1000000, le_nI, lt_nI, eq_nI, oob_nI, cl_nI, sub_nI, add_nI, mul_nI, b2i_t2, b2i_f2, n10, n01, em1, em2, lm1, lm2, lm3, lm4, if_true, if_false, Option.bind_some, Nat.add_zero, Bool.false_eq_true, not_true, not_false_eq_true, enc_hi, enc_uph, hs, hmk, q0, hA, hB, if_true, if_false, and_self]
        · simp (maxSteps := 2000000) (disch := omega) only [↓Lm1, L0, L1, L2, L3, L4, L5, L6, L7, L8, L9, L10, L11, L12, L14, L15, L16, L20, L21, L29, L30, L31, L32, L35, L45, L48, L50, L60, L68, L97, L99, L100, L101, L102, L112, L115, L116, L119, L120, L128, L140, L156, L196, L197, L198, L199, L200, L201, L202, L203, L204, L205, L255, L400, L410, L1000, L2665, L2870, L9999, L10000, L100000, L1000000, le_nI, lt_nI, eq_nI, oob_nI, cl_nI, sub_nI, add_nI, mul_nI, b2i_t2, b2i_f2, n10, n01, em1, em2, lm1, lm2, lm3, lm4, if_true, if_false, Option.bind_some, Nat.add_zero, Bool.false_eq_true, not_true, not_false_eq_true, enc_hi, hs, hmk, q0, hA, hB, if_true, if_false, and_false]
      · simp (maxSteps := 2000000) (disch := omega) only [↓Lm1, L0, L1, L2, L3, L4, L5, L6, L7, L8, L9, L10, L11, L12, L14, L15, L16, L20, L21, L29, L30, L31, L32, L35, L45, L48, L50, L60, L68, L97, L99, L100, L101, L102, L112, L115, L116, L119, L120, L128, L140, L156, L196, L197, L198, L199, L200, L201, L202, L203, L204, L205, L255, L400, L410, L1000, L2665, L2870, L9999, L10000, L100000, L1000000, le_nI, lt_nI, eq_nI, oob_nI, cl_nI, sub_nI, add_nI, mul_nI, b2i_t2, b2i_f2, n10, n01, em1, em2, lm1, lm2, lm3, lm4, if_true, if_false, Option.bind_some, Nat.add_zero, Bool.false_eq_true, not_true, not_false_eq_true, enc_hi, hs, hmk, q0, hA, if_true, if_false, false_and]) m FU 0 (upd r (35 * z + (5 + c)) 0) (by rw [pk_un (by omega)]; exact h8) (fu_lt (by omega)) (by omega)
  unfold f_X0_thaw S_th
  rw [if_neg (by rw [oob_nI (by omega)]; omega), if_neg (by rw [oob_nI (by omega)]; omega), cl_nI (by omega), cl_nI (by omega), enc_upc (v := 0) (isC_c hz hc) (by decide), pn_of h8 hm]
  exact h
