/-! sites don't touch each other -/
def own (s : Nat) (r : Row) (k : Nat) : Prop := (35 * s ≤ k ∧ k < 35 * s + 35) ∨ (196 ≤ k ∧ k < 205) ∨ (156 ≤ k ∧ k < 196 ∧ ((k - 156) % 5 < 2 ∨ r (156 + 5 * ((k - 156) / 5)) = nI s))
def Ag (s : Nat) (r r' : Row) : Prop := ∀ k, own s r k → r k = r' k
theorem ag_refl (s : Nat) (r : Row) : Ag s r r := fun _ _ => rfl
theorem ag_up2 {s k : Nat} {v : Int32} {r r' : Row} (h : Ag s r r') (hk : k < 156 ∨ 196 ≤ k ∨ (k - 156) % 5 ≠ 0) : Ag s (upd r k v) (upd r' k v) := by
  intro j hj
  by_cases e : j = k
  · subst e; rw [pk_us, pk_us]
  · rw [pk_un e, pk_un e]
    apply h
    rcases hj with hj | hj | ⟨h1, h2, h3⟩
    · exact Or.inl hj
    · exact Or.inr (Or.inl hj)
    · refine Or.inr (Or.inr ⟨h1, h2, ?_⟩)
      rw [pk_un (by omega)] at h3
      exact h3
theorem ag_up1 {s k : Nat} {v : Int32} {r r' : Row} (h : Ag s r r') (hk : ¬ own s r k) : Ag s (upd r k v) r' := by
  intro j hj
  have hn : k < 156 ∨ 196 ≤ k ∨ (k - 156) % 5 ≠ 0 := by
    by_cases h1 : k < 156
    · exact Or.inl h1
    · by_cases h2 : 196 ≤ k
      · exact Or.inr (Or.inl h2)
      · exact Or.inr (Or.inr fun h3 => hk (Or.inr (Or.inr ⟨by omega, by omega, Or.inl (by omega)⟩)))
  have hj' : own s r j := by
    rcases hj with hj | hj | ⟨h1, h2, h3⟩
    · exact Or.inl hj
    · exact Or.inr (Or.inl hj)
    · refine Or.inr (Or.inr ⟨h1, h2, ?_⟩)
      rw [pk_un (by omega)] at h3
      exact h3
  have e : j ≠ k := fun e => hk (e ▸ hj')
  rw [pk_un e]
  exact h j hj'
theorem ag_s {s j : Nat} {r r' : Row} (h : Ag s r r') (hj : j < 35) : r (35 * s + j) = r' (35 * s + j) := h _ (Or.inl ⟨by omega, by omega⟩)
theorem ag_s0 {s : Nat} {r r' : Row} (h : Ag s r r') : r (35 * s) = r' (35 * s) := h _ (Or.inl ⟨by omega, by omega⟩)
theorem ag_g {s k : Nat} {r r' : Row} (h : Ag s r r') (h1 : 196 ≤ k) (h2 : k < 205) : r k = r' k := h _ (Or.inr (Or.inl ⟨h1, h2⟩))
theorem ag_p {s p j : Nat} {r r' : Row} (h : Ag s r r') (hp : p < 8) (h1 : 156 ≤ j) (h2 : j < 158) : r (j + 5 * p) = r' (j + 5 * p) := h _ (Or.inr (Or.inr ⟨by omega, by omega, Or.inl (by omega)⟩))
theorem ag_q {s p j : Nat} {r r' : Row} (h : Ag s r r') (hp : p < 8) (h1 : 156 ≤ j) (h2 : j < 161) (hs : r (156 + 5 * p) = nI s) : r (j + 5 * p) = r' (j + 5 * p) :=
  h _ (Or.inr (Or.inr ⟨by omega, by omega, Or.inr (by rw [show 156 + 5 * ((j + 5 * p - 156) / 5) = 156 + 5 * p by omega]; exact hs)⟩))
theorem nown {s z p j : Nat} {r : Row} (hz : z < 4) (hs : s < 4) (hzs : z ≠ s) (hp : p < 8) (h1 : 158 ≤ j) (h2 : j < 161) (h : r (156 + 5 * p) = nI z) : ¬ own s r (j + 5 * p) := by
  intro ho
  rcases ho with ho | ho | ⟨_, _, ho | ho⟩
  · omega
  · omega
  · omega
  · rw [show 156 + 5 * ((j + 5 * p - 156) / 5) = 156 + 5 * p by omega, h, eq_nI (by omega) (by omega)] at ho
    exact hzs ho
theorem nown_s {s z j : Nat} {r : Row} (hz : z < 4) (hzs : z ≠ s) (hj : j < 35) : ¬ own s r (35 * z + j) := by
  intro ho
  rcases ho with ho | ho | ho <;> omega
theorem fzs_same {s c p : Nat} {r r' : Row} (h : Ag s r r') (hp : p < 8) : Ag s (fzs s c p r) (fzs s c p r') := by
  unfold fzs
  rw [← ag_p h hp (j := 156) (by omega) (by omega), ← ag_p h hp (j := 157) (by omega) (by omega)]
  by_cases hc : r (156 + 5 * p) = nI s ∧ r (157 + 5 * p) = nI c
  · rw [if_pos hc, if_pos hc]
    unfold p3
    rw [← ag_q h hp (j := 158) (by omega) (by omega) hc.1, ← ag_q h hp (j := 159) (by omega) (by omega) hc.1, ← ag_q h hp (j := 160) (by omega) (by omega) hc.1, ← ag_g h (k := 204) (by omega) (by omega)]
    exact ag_up2 (ag_up2 (ag_up2 h (by omega)) (by omega)) (by omega)
  · rw [if_neg hc, if_neg hc]
    exact h
theorem ths_same {s c p : Nat} {r r' : Row} (h : Ag s r r') (hp : p < 8) : Ag s (ths s c p r) (ths s c p r') := by
  unfold ths
  rw [← ag_p h hp (j := 156) (by omega) (by omega), ← ag_p h hp (j := 157) (by omega) (by omega)]
  by_cases hc : r (156 + 5 * p) = nI s ∧ r (157 + 5 * p) = nI c
  · rw [if_pos hc, if_pos hc]
    rw [← ag_q h hp (j := 158) (by omega) (by omega) hc.1]
    exact ag_up2 h (by omega)
  · rw [if_neg hc, if_neg hc]
    exact h
theorem fzs_other {s z c p : Nat} {r r' : Row} (hz : z < 4) (hs : s < 4) (hzs : z ≠ s) (h : Ag s r r') (hp : p < 8) : Ag s (fzs z c p r) r' := by
  unfold fzs
  by_cases hc : r (156 + 5 * p) = nI z ∧ r (157 + 5 * p) = nI c
  · rw [if_pos hc]
    unfold p3
    refine ag_up1 (ag_up1 (ag_up1 h (nown hz hs hzs hp (by omega) (by omega) hc.1)) (nown hz hs hzs hp (by omega) (by omega) ?_)) (nown hz hs hzs hp (by omega) (by omega) ?_)
    · rw [pk_un (by omega)]; exact hc.1
    · rw [pk_un (by omega), pk_un (by omega)]; exact hc.1
  · rw [if_neg hc]
    exact h
theorem ths_other {s z c p : Nat} {r r' : Row} (hz : z < 4) (hs : s < 4) (hzs : z ≠ s) (h : Ag s r r') (hp : p < 8) : Ag s (ths z c p r) r' := by
  unfold ths
  by_cases hc : r (156 + 5 * p) = nI z ∧ r (157 + 5 * p) = nI c
  · rw [if_pos hc]
    exact ag_up1 h (nown hz hs hzs hp (by omega) (by omega) hc.1)
  · rw [if_neg hc]
    exact h
theorem pn_ag {s : Nat} {r r' : Row} (h : Ag s r r') : pn r = pn r' := by
  unfold pn
  rw [ag_g h (by omega) (by omega)]
theorem fz_same {s c : Nat} {r r' : Row} (hs : s < 4) (hc : c < 30) (h : Ag s r r') : Ag s (S_fz r s c) (S_fz r' s c) := by
  have := pn_le r
  unfold S_fz
  rw [← pn_ag h, ← ag_g h (k := 199) (by omega) (by omega)]
  exact itr_two (fun a b => Ag s a b) (pn r) 0 _ _ (fun j a b _ h2 h3 => fzs_same h3 (by omega)) (ag_up2 h (by omega))
theorem th_same {s c : Nat} {r r' : Row} (hs : s < 4) (hc : c < 30) (h : Ag s r r') : Ag s (S_th r s c) (S_th r' s c) := by
  have := pn_le r
  unfold S_th
  rw [← pn_ag h]
  exact itr_two (fun a b => Ag s a b) (pn r) 0 _ _ (fun j a b _ h2 h3 => ths_same h3 (by omega)) (ag_up2 h (by omega))
theorem fz_other {s z c : Nat} {r r' : Row} (hz : z < 4) (hs : s < 4) (hzs : z ≠ s) (hc : c < 30) (h : Ag s r r') : Ag s (S_fz r z c) r' := by
  have := pn_le r
  exact itr_rng (fun a => Ag s a r') (pn r) 0 _ (fun j a _ h2 h3 => fzs_other hz hs hzs h3 (by omega)) (ag_up1 h (nown_s hz hzs (by omega)))
theorem th_other {s z c : Nat} {r r' : Row} (hz : z < 4) (hs : s < 4) (hzs : z ≠ s) (hc : c < 30) (h : Ag s r r') : Ag s (S_th r z c) r' := by
  have := pn_le r
  exact itr_rng (fun a => Ag s a r') (pn r) 0 _ (fun j a _ h2 h3 => ths_other hz hs hzs h3 (by omega)) (ag_up1 h (nown_s hz hzs (by omega)))
theorem fR_ag {s c : Nat} {r r' : Row} (h : Ag s r r') (hc : c < 30) : fR r s c = fR r' s c := fR_congr (ag_s h (by omega))
theorem fz1_same {s c : Nat} {r r' : Row} (hs : s < 4) (hc : c < 30) (h : Ag s r r') : Ag s (fz1 r s c) (fz1 r' s c) := by
  unfold fz1
  rw [← ag_s h (j := 2) (by omega)]
  exact fz_same hs hc (ag_up2 h (by omega))
theorem th1_same {s c : Nat} {r r' : Row} (hs : s < 4) (hc : c < 30) (h : Ag s r r') : Ag s (th1 r s c) (th1 r' s c) := by
  unfold th1
  rw [← ag_s h (j := 3) (by omega)]
  exact th_same hs hc (ag_up2 h (by omega))
theorem fz1_other {s z c : Nat} {r r' : Row} (hz : z < 4) (hs : s < 4) (hzs : z ≠ s) (hc : c < 30) (h : Ag s r r') : Ag s (fz1 r z c) r' :=
  fz_other hz hs hzs hc (ag_up1 h (nown_s hz hzs (by omega)))
theorem th1_other {s z c : Nat} {r r' : Row} (hz : z < 4) (hs : s < 4) (hzs : z ≠ s) (hc : c < 30) (h : Ag s r r') : Ag s (th1 r z c) r' :=
  th_other hz hs hzs hc (ag_up1 h (nown_s hz hzs (by omega)))
theorem fzl_same {s : Nat} (hs : s < 4) : ∀ m c (r r' : Row), c + m ≤ 30 → Ag s r r' → Ag s (fzl s c m r) (fzl s c m r')
  | 0, _, _, _, _, h => h
  | m + 1, c, r, r', hc, h => by
    show Ag s (if r (35 * s + 2) < nI (4 + c) then r else fzl s (c + 1) m (if fR r s c then r else fz1 r s c)) (if r' (35 * s + 2) < nI (4 + c) then r' else fzl s (c + 1) m (if fR r' s c then r' else fz1 r' s c))
    rw [← ag_s h (j := 2) (by omega), ← fR_ag h (by omega)]
    split
    · exact h
    · apply fzl_same hs m (c + 1) _ _ (by omega)
      split
      · exact h
      · exact fz1_same hs (by omega) h
theorem thl_same {s : Nat} (hs : s < 4) : ∀ m c (r r' : Row), c + m ≤ 30 → Ag s r r' → Ag s (thl s c m r) (thl s c m r')
  | 0, _, _, _, _, h => h
  | m + 1, c, r, r', hc, h => by
    show Ag s (if r (35 * s + 3) < nI (3 + c) then r else thl s (c + 1) m (if fR r s c then th1 r s c else r)) (if r' (35 * s + 3) < nI (3 + c) then r' else thl s (c + 1) m (if fR r' s c then th1 r' s c else r'))
    rw [← ag_s h (j := 3) (by omega), ← fR_ag h (by omega)]
    split
    · exact h
    · apply thl_same hs m (c + 1) _ _ (by omega)
      split
      · exact th1_same hs (by omega) h
      · exact h
theorem fzl_other {s z : Nat} (hz : z < 4) (hs : s < 4) (hzs : z ≠ s) (r' : Row) : ∀ m c (r : Row), c + m ≤ 30 → Ag s r r' → Ag s (fzl z c m r) r'
  | 0, _, _, _, h => h
  | m + 1, c, r, hc, h => by
    show Ag s (if r (35 * z + 2) < nI (4 + c) then r else fzl z (c + 1) m (if fR r z c then r else fz1 r z c)) r'
    split
    · exact h
    · apply fzl_other hz hs hzs r' m (c + 1) _ (by omega)
      split
      · exact h
      · exact fz1_other hz hs hzs (by omega) h
theorem thl_other {s z : Nat} (hz : z < 4) (hs : s < 4) (hzs : z ≠ s) (r' : Row) : ∀ m c (r : Row), c + m ≤ 30 → Ag s r r' → Ag s (thl z c m r) r'
  | 0, _, _, _, h => h
  | m + 1, c, r, hc, h => by
    show Ag s (if r (35 * z + 3) < nI (3 + c) then r else thl z (c + 1) m (if fR r z c then th1 r z c else r)) r'
    split
    · exact h
    · apply thl_other hz hs hzs r' m (c + 1) _ (by omega)
      split
      · exact th1_other hz hs hzs (by omega) h
      · exact h
theorem ls_same {s : Nat} {r r' : Row} (hs : s < 4) (h : Ag s r r') : Ag s (S_ls r s) (S_ls r' s) := by
  unfold S_ls
  rw [← ag_g h (k := 202) (by omega) (by omega), ← ag_g h (k := 199) (by omega) (by omega), ← ld_congr 30 (fun j hj => fR_ag h hj)]
  split
  · exact h
  · split
    · rcases ld_or (fR r s) 30 with ⟨h3, _⟩ | ⟨c, hc, h3, _⟩
      · rw [if_pos h3, if_pos h3]; exact h
      · rw [h3, if_neg (m1_ne (by omega)), if_neg (m1_ne (by omega)), cl_nI (by omega)]
        exact th_same hs hc h
    · exact h
theorem ls_other {s z : Nat} {r r' : Row} (hz : z < 4) (hs : s < 4) (hzs : z ≠ s) (h : Ag s r r') : Ag s (S_ls r z) r' := by
  unfold S_ls
  split
  · exact h
  · split
    · rcases ld_or (fR r z) 30 with ⟨h3, _⟩ | ⟨c, hc, h3, _⟩
      · rw [if_pos h3]; exact h
      · rw [h3, if_neg (m1_ne (by omega)), cl_nI (by omega)]
        exact th_other hz hs hzs hc h
    · exact h
theorem wt_same {s : Nat} {t w : Int32} {r r' : Row} (hs : s < 4) (h : Ag s r r') : Ag s (S_wt r s t w) (S_wt r' s t w) := by
  have e1 : sn1 r' s w = sn1 r s w := by
    unfold sn1
    rw [ag_s0 h, ag_s h (by omega)]
  have e2 : ml1 r' s t w = ml1 r s t w := by
    unfold ml1
    rw [e1, ag_g h (by omega) (by omega)]
  have e3 : cd1 r' s t w = cd1 r s t w := by
    unfold cd1
    rw [e1]
  unfold S_wt
  rw [e1, e2, e3, ← ag_s h (j := 2) (by omega), ← ag_s h (j := 3) (by omega), ← ag_s h (j := 4) (by omega), ← ag_g h (k := 203) (by omega) (by omega)]
  split
  · split
    · exact ag_up2 h (by omega)
    · exact ag_up2 (ag_up2 (ag_up2 (ag_up2 h (by omega)) (by omega)) (by omega)) (by omega)
  · split
    · exact ag_up2 (ag_up2 (ag_up2 h (by omega)) (by omega)) (by omega)
    · exact ag_up2 (ag_up2 h (by omega)) (by omega)
theorem nown_s0 {s z : Nat} {r : Row} (hz : z < 4) (hzs : z ≠ s) : ¬ own s r (35 * z) := nown_s (j := 0) hz hzs (by omega)
theorem wt_other {s z : Nat} {t w : Int32} {r r' : Row} (hz : z < 4) (hzs : z ≠ s) (h : Ag s r r') : Ag s (S_wt r z t w) r' := by
  unfold S_wt
  split
  · split
    · exact ag_up1 h (nown_s0 hz hzs)
    · exact ag_up1 (ag_up1 (ag_up1 (ag_up1 h (nown_s0 hz hzs)) (nown_s hz hzs (by omega))) (nown_s hz hzs (by omega))) (nown_s hz hzs (by omega))
  · split
    · exact ag_up1 (ag_up1 (ag_up1 h (nown_s0 hz hzs)) (nown_s hz hzs (by omega))) (nown_s hz hzs (by omega))
    · exact ag_up1 (ag_up1 h (nown_s0 hz hzs)) (nown_s hz hzs (by omega))
theorem ds_same {s : Nat} {t w : Int32} {r r' : Row} (hs : s < 4) (h : Ag s r r') : Ag s (S_ds r s t w) (S_ds r' s t w) :=
  ls_same hs (thl_same hs 30 0 _ _ (by omega) (fzl_same hs 30 0 _ _ (by omega) (wt_same hs h)))
theorem ds_other {s z : Nat} {t w : Int32} {r r' : Row} (hz : z < 4) (hs : s < 4) (hzs : z ≠ s) (h : Ag s r r') : Ag s (S_ds r z t w) r' :=
  ls_other hz hs hzs (thl_other hz hs hzs r' 30 0 _ (by omega) (fzl_other hz hs hzs r' 30 0 _ (by omega) (wt_other hz hzs h)))
theorem day_ag_l {s : Nat} {t w : Int32} (hs : s < 4) : ∀ m k (r r' : Row), k + m ≤ 4 → Ag s r r' → Ag s (itr (fun z r => S_ds r z t w) k m r) (if k ≤ s ∧ s < k + m then S_ds r' s t w else r')
  | 0, k, r, r', _, h => by
    rw [if_neg (by omega)]
    exact h
  | m + 1, k, r, r', hk, h => by
    by_cases e : k = s
    · subst e
      have ih := day_ag_l (t := t) (w := w) hs m (k + 1) (S_ds r k t w) (S_ds r' k t w) (by omega) (ds_same hs h)
      rw [if_neg (by omega)] at ih
      rw [if_pos (by omega)]
      exact ih
    · have ih := day_ag_l (t := t) (w := w) hs m (k + 1) (S_ds r k t w) r' (by omega) (ds_other (by omega) hs e h)
      by_cases h2 : k + 1 ≤ s ∧ s < k + 1 + m
      · rw [if_pos h2] at ih
        rw [if_pos (by omega)]
        exact ih
      · rw [if_neg h2] at ih
        rw [if_neg (by omega)]
        exact ih
theorem day_ag {s : Nat} {t w : Int32} {r r' : Row} (hs : s < sc r) (h : Ag s r r') : Ag s (S_day r t w) (S_ds (upd r' 199 (r' 199 + 1)) s t w) := by
  have := sc_le r
  have hl := day_ag_l (t := t) (w := w) (by omega : s < 4) (sc r) 0 (upd r 199 (r 199 + 1)) (upd r' 199 (r' 199 + 1)) (by omega) (by
    rw [← ag_g h (k := 199) (by omega) (by omega)]
    exact ag_up2 h (by omega))
  rw [if_pos (by omega)] at hl
  exact hl
theorem sc_day {r : Row} {t w : Int32} : sc (S_day r t w) = sc r := by
  unfold sc
  rw [day_hi (by omega) (by omega)]
theorem go_ag {s : Nat} {t w : Int32} : ∀ n k (r r' : Row), s < sc r → Ag s r r' → Ag s (itr (fun _ r => S_day r t w) k n r) (itr (fun _ r => S_ds (upd r 199 (r 199 + 1)) s t w) k n r')
  | 0, _, _, _, _, h => h
  | n + 1, k, r, r', hs, h => go_ag n (k + 1) _ _ (by rw [sc_day]; exact hs) (day_ag hs h)
