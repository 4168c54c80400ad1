/-! what holds of a ground besides: the numbers of its sites, tubes and pipes -/
theorem itr_ix {σ : Type} {f : Nat → σ → σ} (P : Nat → σ → Prop) : ∀ m k s, (∀ j s, k ≤ j → j < k + m → P j s → P (j + 1) (f j s)) → P k s → P (k + m) (itr f k m s)
  | 0, _, _, _, hs => hs
  | m + 1, k, s, h, hs => by
    have := itr_ix P m (k + 1) (f k s) (fun j s a b c => h j s (by omega) (by omega) c) (h k s (Nat.le_refl _) (by omega) hs)
    rw [show k + (m + 1) = k + 1 + m by omega]
    exact this
def Js (d : Nat) (r : Row) (z : Nat) : Prop := ∃ a b, r (35 * z + 2) = nI a ∧ r (35 * z + 3) = nI b ∧ a ≤ 30 * d ∧ b ≤ 30 * d ∧ (a = 0 ∨ b = 0)
def Jp (e : Nat) (r : Row) (p : Nat) : Prop := ∃ h g n, r (158 + 5 * p) = nI h ∧ r (159 + 5 * p) = nI g ∧ r (160 + 5 * p) = nI n ∧ h ≤ g ∧ g ≤ 50 * e ∧ n ≤ e ∧ (0 < n ∨ g = 0)
def Jt (r : Row) (t : Nat) : Prop := nI t < r 197 → r (140 + 2 * t) < r 196 ∧ 1 ≤ r (141 + 2 * t)
def J (d : Nat) (r : Row) : Prop := (∀ z, z < 4 → Js d r z) ∧ (∀ t, t < 8 → Jt r t) ∧ (∀ p, p < 8 → Jp (120 * d) r p)
theorem js_mono {d d' z : Nat} {r : Row} (h : Js d r z) (hd : d ≤ d') : Js d' r z := by
  obtain ⟨a, b, h1, h2, h3, h4, h5⟩ := h
  exact ⟨a, b, h1, h2, by omega, by omega, h5⟩
theorem jp_mono {e e' p : Nat} {r : Row} (h : Jp e r p) (he : e ≤ e') : Jp e' r p := by
  obtain ⟨x, g, n, h1, h2, h3, h5, h6, h7, h8⟩ := h
  exact ⟨x, g, n, h1, h2, h3, h5, by omega, by omega, h8⟩
theorem js_up {d z k : Nat} {v : Int32} {r : Row} (h : Js d r z) (hk : k ≠ 35 * z + 2) (hk3 : k ≠ 35 * z + 3) : Js d (upd r k v) z := by
  obtain ⟨a, b, h1, h2, h3⟩ := h
  exact ⟨a, b, by rw [pk_un (Ne.symm hk), h1], by rw [pk_un (Ne.symm hk3), h2], h3⟩
theorem jp_up {e p k : Nat} {v : Int32} {r : Row} (h : Jp e r p) (hk : k ≠ 158 + 5 * p) (hk2 : k ≠ 159 + 5 * p) (hk3 : k ≠ 160 + 5 * p) : Jp e (upd r k v) p := by
  obtain ⟨x, g, n, h1, h2, h3, h5⟩ := h
  exact ⟨x, g, n, by rw [pk_un (Ne.symm hk), h1], by rw [pk_un (Ne.symm hk2), h2], by rw [pk_un (Ne.symm hk3), h3], h5⟩
theorem mx_nI {a b : Nat} (ha : a < 2147483648) (hb : b < 2147483648) : mx (nI a) (nI b) = nI (max a b) := by
  unfold mx
  by_cases h : b < a
  · rw [if_pos ((lt_nI hb ha).mpr h), Nat.max_eq_left (by omega)]
  · rw [if_neg (fun x => h ((lt_nI hb ha).mp x)), Nat.max_eq_right (by omega)]
theorem jp_p3 {e t p : Nat} {r : Row} (he : e < 2000000) (h4 : r 204 = nI t) (ht : t ≤ 50) (h : Jp e r p) : Jp (e + 1) (p3 r p) p := by
  obtain ⟨x, g, n, h1, h2, h3, h5, h6, h7, h8⟩ := h
  refine ⟨x + t, max (x + t) g, n + 1, ?_, ?_, ?_, by omega, by omega, by omega, Or.inl (by omega)⟩
  · unfold p3
    rw [pk_un (by omega), pk_un (by omega), pk_us, h1, h4, add_nI]
  · unfold p3
    rw [pk_un (by omega), pk_us, h1, h4, h2, add_nI, mx_nI (by omega) (by omega)]
  · unfold p3
    rw [pk_us, h3]
    exact add_nI n 1
theorem jp_p3o {e p q : Nat} {r : Row} (hpq : p ≠ q) (h : Jp e r q) : Jp e (p3 r p) q := by
  unfold p3
  exact jp_up (jp_up (jp_up h (by omega) (by omega) (by omega)) (by omega) (by omega) (by omega)) (by omega) (by omega) (by omega)
theorem jp_fz {e t z c : Nat} {r : Row} (he : e < 2000000) (h4 : r 204 = nI t) (ht : t ≤ 50) (hz : z < 4) (hc : c < 30) (h : ∀ p, p < 8 → Jp e r p) : ∀ p, p < 8 → Jp (e + 1) (S_fz r z c) p := by
  have hp8 := pn_le r
  have key := itr_ix (f := fzs z c) (fun k s => s 204 = nI t ∧ (∀ q, q < 8 → q < k → Jp (e + 1) s q) ∧ ∀ q, q < 8 → k ≤ q → Jp e s q) (pn r) 0 (upd r (35 * z + (5 + c)) (r 199)) (fun j s _ hj hs => ?_) ⟨by rw [pk_un (by omega), h4], fun q _ h => absurd h (Nat.not_lt_zero q), fun q hq _ => jp_up (h q hq) (by omega) (by omega) (by omega)⟩
  · intro p hp
    by_cases hlt : p < 0 + pn r
    · exact key.2.1 p hp hlt
    · exact jp_mono (key.2.2 p hp (by omega)) (by omega)
  · obtain ⟨s1, s2, s3⟩ := hs
    refine ⟨by rw [fzs_st (by omega) (Or.inr (Or.inl (by omega))), s1], fun q hq hqj => ?_, fun q hq hqj => ?_⟩
    · by_cases e1 : q = j
      · subst e1
        unfold fzs
        split
        · exact jp_p3 he s1 ht (s3 q hq (Nat.le_refl q))
        · exact jp_mono (s3 q hq (Nat.le_refl q)) (by omega)
      · unfold fzs
        split
        · exact jp_p3o (by omega) (s2 q hq (by omega))
        · exact s2 q hq (by omega)
    · unfold fzs
      split
      · exact jp_p3o (by omega) (s3 q hq (by omega))
      · exact s3 q hq (by omega)
theorem jp_ths {e z c p q : Nat} {r : Row} (he : e < 2000000) (h : Jp e r q) : Jp e (ths z c p r) q := by
  unfold ths
  split
  · by_cases e1 : q = p
    · subst e1
      obtain ⟨x, g, n, h1, h2, h3, h5, h6, h7, h8⟩ := h
      refine ⟨x - x / 2, g, n, ?_, by rw [pk_un (by omega), h2], by rw [pk_un (by omega), h3], by omega, h6, h7, h8⟩
      rw [pk_us, h1, show (2 : Int32) = nI 2 from rfl, pk_div (by omega) (by omega) (by omega), sub_nI (by omega)]
    · exact jp_up h (by omega) (by omega) (by omega)
  · exact h
theorem jp_th {e z c : Nat} {r : Row} (he : e < 2000000) (hz : z < 4) (hc : c < 30) (h : ∀ p, p < 8 → Jp e r p) : ∀ p, p < 8 → Jp e (S_th r z c) p := fun p hp =>
  itr_inv (fun s => Jp e s p) (fun _ _ hs => jp_ths he hs) (pn r) 0 _ (jp_up (h p hp) (by omega) (by omega) (by omega))
theorem js_fz {d z z' c : Nat} {r : Row} (hz : z < 4) (hz' : z' < 4) (hc : c < 30) (h : Js d r z') : Js d (S_fz r z c) z' := by
  obtain ⟨a, b, h1, h2, h3⟩ := h
  exact ⟨a, b, by rw [fz_st (Or.inl (by omega)), pk_un (by omega), h1], by rw [fz_st (Or.inl (by omega)), pk_un (by omega), h2], h3⟩
theorem js_th {d z z' c : Nat} {r : Row} (hz : z < 4) (hz' : z' < 4) (hc : c < 30) (h : Js d r z') : Js d (S_th r z c) z' := by
  obtain ⟨a, b, h1, h2, h3⟩ := h
  exact ⟨a, b, by rw [th_st (Or.inl (by omega)), pk_un (by omega), h1], by rw [th_st (Or.inl (by omega)), pk_un (by omega), h2], h3⟩
/-- during a day: the step of heave, the stored cold and warmth, the pipes -/
def JK (d e t : Nat) (r : Row) : Prop := r 204 = nI t ∧ (∀ z, z < 4 → Js d r z) ∧ ∀ p, p < 8 → Jp e r p
theorem jk_fz1 {d e t z c : Nat} {r : Row} (hd : d < 100000) (he : e < 2000000) (ht : t ≤ 50) (hz : z < 4) (hc : c < 30) (h : JK d e t r) (hn : ¬ r (35 * z + 2) < nI (4 + c)) : JK d (e + 1) t (fz1 r z c) := by
  obtain ⟨h1, h2, h3⟩ := h
  have h204 : upd r (35 * z + 2) (r (35 * z + 2) - nI (4 + c)) 204 = nI t := by rw [pk_un (by omega), h1]
  refine ⟨?_, fun z' hz' => ?_, ?_⟩
  · unfold fz1
    rw [fz_st (Or.inr (Or.inl (by omega))), pk_un (by omega), h204]
  · unfold fz1
    refine js_fz hz hz' hc ?_
    by_cases e1 : z' = z
    · subst e1
      obtain ⟨a, b, a1, a2, a3, a4, a5⟩ := h2 z' hz
      rw [a1, lt_nI (by omega) (by omega)] at hn
      exact ⟨a - (4 + c), b, by rw [pk_us, a1, sub_nI (by omega)], by rw [pk_un (by omega), a2], by omega, a4, by omega⟩
    · exact js_up (h2 z' hz') (by omega) (by omega)
  · unfold fz1
    exact jp_fz he h204 ht hz hc (fun p hp => jp_up (h3 p hp) (by omega) (by omega) (by omega))
theorem jk_th1 {d e t z c : Nat} {r : Row} (hd : d < 100000) (he : e < 2000000) (hz : z < 4) (hc : c < 30) (h : JK d e t r) (hn : ¬ r (35 * z + 3) < nI (3 + c)) : JK d e t (th1 r z c) := by
  obtain ⟨h1, h2, h3⟩ := h
  refine ⟨?_, fun z' hz' => ?_, ?_⟩
  · unfold th1
    rw [th_st (Or.inr (Or.inl (by omega))), pk_un (by omega), pk_un (by omega), h1]
  · unfold th1
    refine js_th hz hz' hc ?_
    by_cases e1 : z' = z
    · subst e1
      obtain ⟨a, b, a1, a2, a3, a4, a5⟩ := h2 z' hz
      rw [a2, lt_nI (by omega) (by omega)] at hn
      exact ⟨a, b - (3 + c), by rw [pk_un (by omega), a1], by rw [pk_us, a2, sub_nI (by omega)], a3, by omega, by omega⟩
    · exact js_up (h2 z' hz') (by omega) (by omega)
  · unfold th1
    exact jp_th he hz hc (fun p hp => jp_up (h3 p hp) (by omega) (by omega) (by omega))
theorem jk_mono {d e e' t : Nat} {r : Row} (h : JK d e t r) (he : e ≤ e') : JK d e' t r := ⟨h.1, h.2.1, fun p hp => jp_mono (h.2.2 p hp) he⟩
theorem jk_fzl {d t z : Nat} (hd : d < 100000) (ht : t ≤ 50) (hz : z < 4) : ∀ m c e r, c + m ≤ 30 → e + m < 2000000 → JK d e t r → JK d (e + m) t (fzl z c m r)
  | 0, _, _, _, _, _, h => h
  | m + 1, c, e, r, hc, he, h => by
    show JK d (e + (m + 1)) t (if r (35 * z + 2) < nI (4 + c) then r else fzl z (c + 1) m (if fR r z c then r else fz1 r z c))
    by_cases hn : r (35 * z + 2) < nI (4 + c)
    · rw [if_pos hn]
      exact jk_mono h (by omega)
    · rw [if_neg hn, show e + (m + 1) = e + 1 + m by omega]
      apply jk_fzl hd ht hz m (c + 1) (e + 1) _ (by omega) (by omega)
      split
      · exact jk_mono h (by omega)
      · exact jk_fz1 hd (by omega) ht hz (by omega) h hn
theorem jk_thl {d e t z : Nat} (hd : d < 100000) (he : e < 2000000) (hz : z < 4) : ∀ m c r, c + m ≤ 30 → JK d e t r → JK d e t (thl z c m r)
  | 0, _, _, _, h => h
  | m + 1, c, r, hc, h => by
    show JK d e t (if r (35 * z + 3) < nI (3 + c) then r else thl z (c + 1) m (if fR r z c then th1 r z c else r))
    by_cases hn : r (35 * z + 3) < nI (3 + c)
    · rw [if_pos hn]
      exact h
    · rw [if_neg hn]
      apply jk_thl hd he hz m (c + 1) _ (by omega)
      split
      · exact jk_th1 hd he hz (by omega) h hn
      · exact h
theorem jk_ls {d e t z : Nat} {r : Row} (he : e < 2000000) (hz : z < 4) (h : JK d e t r) : JK d e t (S_ls r z) := by
  unfold S_ls
  split
  · exact h
  · split
    · rcases ld_or (fR r z) 30 with ⟨h3, _⟩ | ⟨c, hc, h3, _⟩
      · rw [if_pos h3]; exact h
      · rw [h3, if_neg (m1_ne (by omega)), cl_nI (by omega)]
        exact ⟨by rw [th_st (Or.inr (Or.inl (by omega))), pk_un (by omega), h.1], fun z' hz' => js_th hz hz' hc (h.2.1 z' hz'), jp_th he hz hc h.2.2⟩
    · exact h
/-- the weather of a day: thirty more at most of cold or of warmth, never both -/
theorem js_wt {D d z w' : Nat} {t : Int32} {r : Row} (hd : d < 100000) (hi : Inv D r) (hz : z < 4) (ht : dg t) (hw : w' ≤ 30) (h : Js d r z) : Js (d + 1) (S_wt r z t (nI w')) z := by
  obtain ⟨a, b, a1, a2, a3, a4, a5⟩ := h
  obtain ⟨q, hq, hsn⟩ := sn1_nI (inv_sw hi hz) hw
  obtain ⟨f, hf1, hf9, hf⟩ := inv_rt hi
  unfold S_wt
  rcases dg_cases ht with h0 | ⟨u, hu1, hu2, h1⟩ | ⟨u, hu1, hu2, h1⟩
  · subst h0
    rw [if_pos (by decide), if_pos (by decide)]
    exact ⟨a, b, by rw [pk_un (by omega), a1], by rw [pk_un (by omega), a2], by omega, by omega, a5⟩
  · subst h1
    have hml : ml1 r z (nI u) (nI w') = nI (min (u * f) q) := by
      unfold ml1
      rw [hf, mul_nI, hsn, mn_nI (by have := Nat.mul_le_mul hu2 hf9; omega) (by omega)]
    have hmle : min (u * f) q ≤ q := Nat.min_le_right _ _
    have hdiv : min (u * f) q / f ≤ u := by
      have h1 : min (u * f) q / f ≤ u * f / f := Nat.div_le_div_right (Nat.min_le_left _ _)
      rwa [Nat.mul_div_cancel _ (by omega)] at h1
    have hsub : u - min (u * f) q / f ≤ 30 := Nat.le_trans (Nat.sub_le _ _) hu2
    rw [if_neg (nI_nle (by omega) (by omega)), hml, hsn, sub_nI hmle]
    split
    · refine ⟨0, b + (u - min (u * f) q / f), by rw [pk_us]; rfl, ?_, by omega, by omega, Or.inl rfl⟩
      rw [pk_un (by omega), pk_us, a2, hf, pk_div (by omega) (by omega) (by omega), sub_nI hdiv, add_nI]
    · exact ⟨0, b, by rw [pk_us]; rfl, by rw [pk_un (by omega), pk_un (by omega), a2], by omega, by omega, Or.inl rfl⟩
  · subst h1
    have hneg := neg_nI_lt hu1 (by omega : u < 2147483648)
    have hcd : cd1 r z (-nI u) (nI w') = nI (10 * u / (10 + q)) := by
      unfold cd1
      rw [Int32.neg_neg, hsn, show (10 : Int32) = nI 10 from rfl, mul_nI, add_nI, pk_div (by omega) (by omega) (by omega)]
    have hle : 10 * u / (10 + q) ≤ 30 := by
      have h1 : 10 * u / (10 + q) ≤ 10 * u / 10 := Nat.div_le_div_left (by omega) (by omega)
      omega
    rw [if_pos (Int32.le_of_lt hneg), if_neg (Int32.not_le.mpr hneg), hcd]
    exact ⟨a + 10 * u / (10 + q), 0, by rw [pk_un (by omega), pk_un (by omega), pk_us, a1, add_nI], by rw [pk_us]; rfl, by omega, by omega, Or.inr rfl⟩
theorem wt_off {r : Row} {z k : Nat} {t w : Int32} (hk : k < 35 * z ∨ 35 * z + 5 ≤ k) : S_wt r z t w k = r k := by
  unfold S_wt
  split
  · split
    · rw [pk_un (by omega)]
    · rw [pk_un (by omega), pk_un (by omega), pk_un (by omega), pk_un (by omega)]
  · split
    · rw [pk_un (by omega), pk_un (by omega), pk_un (by omega)]
    · rw [pk_un (by omega), pk_un (by omega)]
theorem js_wto {d z z' : Nat} {t w : Int32} {r : Row} (hzz : z' ≠ z) (h : Js d r z') : Js d (S_wt r z t w) z' := by
  obtain ⟨a, b, h1, h2, h3⟩ := h
  exact ⟨a, b, by rw [wt_off (by omega), h1], by rw [wt_off (by omega), h2], h3⟩
theorem jp_wt {e p z : Nat} {t w : Int32} {r : Row} (hz : z < 4) (h : Jp e r p) : Jp e (S_wt r z t w) p := by
  obtain ⟨x, g, n, h1, h2, h3, h5⟩ := h
  exact ⟨x, g, n, by rw [wt_off (by omega), h1], by rw [wt_off (by omega), h2], by rw [wt_off (by omega), h3], h5⟩
/-- sites below k have had their day -/
def JD (d e t k : Nat) (r : Row) : Prop := r 204 = nI t ∧ (∀ z, z < 4 → Js (if z < k then d + 1 else d) r z) ∧ ∀ p, p < 8 → Jp e r p
theorem jd_of {d e t z : Nat} {r : Row} (h : JK (d + 1) e t r) (h2 : ∀ z', z' < 4 → z < z' → Js d r z') : JD d e t (z + 1) r := ⟨h.1, fun z' hz' => by
  by_cases hlt : z' < z + 1
  · rw [if_pos hlt]; exact h.2.1 z' hz'
  · rw [if_neg hlt]; exact h2 z' hz' (by omega), h.2.2⟩
theorem ds_oth {d z z' : Nat} {t w : Int32} {r : Row} (hz : z < 4) (hz' : z' < 4) (hzz : z' ≠ z) (h : Js d r z') : Js d (S_ds r z t w) z' := by
  have hA : Ag z' (S_ds r z t w) r := ds_other hz hz' (Ne.symm hzz) (ag_refl z' r)
  obtain ⟨a, b, h1, h2, h3⟩ := h
  exact ⟨a, b, by rw [ag_s hA (by omega), h1], by rw [ag_s hA (by omega), h2], h3⟩
theorem jd_ds {D d e t z w' : Nat} {u : Int32} {r : Row} (hd : d + 1 < 100000) (he : e + 30 < 2000000) (ht : t ≤ 50) (hi : Inv D r) (hz : z < 4) (hu : dg u) (hw : w' ≤ 30) (h : JD d e t z r) : JD d (e + 30) t (z + 1) (S_ds r z u (nI w')) := by
  obtain ⟨h1, h2, h3⟩ := h
  refine jd_of ?_ (fun z' hz' hlt => ds_oth hz hz' (by omega) (by have := h2 z' hz'; rw [if_neg (by omega)] at this; exact this))
  refine jk_ls (by omega) hz (jk_thl (by omega) (by omega) hz 30 0 _ (by omega) (jk_fzl (by omega) ht hz 30 0 e _ (by omega) (by omega) ⟨?_, fun z' hz' => ?_, fun p hp => jp_wt hz (h3 p hp)⟩))
  · rw [wt_off (by omega), h1]
  · by_cases e1 : z' = z
    · subst e1
      have := h2 z' hz
      rw [if_neg (by omega)] at this
      exact js_wt (by omega) hi hz hu hw this
    · refine js_wto e1 ?_
      have := h2 z' hz'
      by_cases hlt : z' < z
      · rw [if_pos hlt] at this; exact this
      · rw [if_neg hlt] at this; exact js_mono this (by omega)
theorem jt_congr {r r' : Row} {t : Nat} (h : Jt r t) (h1 : r' 197 = r 197) (h2 : r' 196 = r 196) (h3 : r' (140 + 2 * t) = r (140 + 2 * t)) (h4 : r' (141 + 2 * t) = r (141 + 2 * t)) : Jt r' t := by
  unfold Jt
  rw [h1, h2, h3, h4]
  exact h
theorem gd_204 {D d : Nat} {r : Row} (h : gd D d r) : ∃ t, r 204 = nI t ∧ t ≤ 50 := by
  obtain ⟨n, h1, _, h3⟩ := inv_at (k := 204) (b := (0, 50)) h.1 rfl
  exact ⟨n, h1, h3⟩
theorem j_day {D d w' : Nat} {u : Int32} {r : Row} (hg : gd D d r) (hd : d + 1 ≤ D) (hD : D ≤ 9999) (hu : dg u) (hw : w' ≤ 30) (h : J d r) : J (d + 1) (S_day r u (nI w')) := by
  obtain ⟨t, ht4, ht⟩ := gd_204 hg
  have hsc := sc_le r
  have key := itr_ix (f := fun s r => S_ds r s u (nI w')) (fun k s => gd D (d + 1) s ∧ JD d (120 * d + 30 * k) t k s) (sc r) 0 (upd r 199 (r 199 + 1)) (fun j s _ hj hs => ?_) ?_
  · obtain ⟨k1, k2, k3, k4⟩ := key
    refine ⟨fun z hz => ?_, fun z hz => ?_, fun p hp => jp_mono (k4 p hp) (by omega)⟩
    · have := k3 z hz
      by_cases hlt : z < 0 + sc r
      · rw [if_pos hlt] at this; exact this
      · rw [if_neg hlt] at this; exact js_mono this (by omega)
    · exact jt_congr (h.2.1 z hz) (day_hi (by omega) (by omega)) (day_hi (by omega) (by omega)) (day_sth (by omega) (Or.inl (by omega)) (by omega)) (day_sth (by omega) (Or.inl (by omega)) (by omega))
  · obtain ⟨s1, s2⟩ := hs
    exact ⟨gd_ds s1 (by omega) hu hw, by
      have := jd_ds (D := D) (by omega) (by omega) ht s1.1 (by omega : j < 4) hu hw s2
      rw [show 120 * d + 30 * (j + 1) = 120 * d + 30 * j + 30 by omega]
      exact this⟩
  · refine ⟨gd_inc hg hd, by rw [pk_un (by omega), ht4], fun z hz => ?_, fun p hp => ?_⟩
    · rw [if_neg (by omega)]
      exact js_up (h.1 z hz) (by omega) (by omega)
    · exact jp_up (h.2.2 p hp) (by omega) (by omega) (by omega)
theorem j_go {D w' : Nat} {u : Int32} (hD : D ≤ 9999) (hu : dg u) (hw : w' ≤ 30) : ∀ n k d (r : Row), gd D d r → d + n ≤ D → J d r → J (d + n) (itr (fun _ r => S_day r u (nI w')) k n r)
  | 0, _, _, _, _, _, h => h
  | n + 1, k, d, r, hg, hd, h => by
    have := j_go hD hu hw n (k + 1) (d + 1) _ (gd_day hg (by omega) hu hw) (by omega) (j_day hg (by omega) hD hu hw h)
    rw [show d + (n + 1) = d + 1 + n by omega]
    exact this
