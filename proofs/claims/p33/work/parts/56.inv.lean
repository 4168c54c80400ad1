/-! what holds of a row all along -/
def bq (D k : Nat) : Option (Nat × Nat) :=
  if k < 140 then (if k % 35 = 0 then some (0, 99) else if k % 35 = 1 then some (0, 20) else if k % 35 < 5 then none else some (0, D))
  else if k < 156 then (if k % 2 = 0 then some (0, 3) else some (0, 30))
  else if k < 196 then (if (k - 156) % 5 = 0 then some (0, 3) else if (k - 156) % 5 = 1 then some (0, 29) else none)
  else if k = 196 then some (0, 4) else if k = 197 then some (0, 8) else if k = 198 then some (0, 8) else if k = 199 then some (0, D)
  else if k = 202 then some (0, 30) else if k = 203 then some (1, 9) else if k = 204 then some (0, 50) else none
def inR (b : Nat × Nat) (v : Int32) : Prop := ∃ n, v = nI n ∧ b.1 ≤ n ∧ n ≤ b.2
/-- the pipes that are there lie at sites that are there -/
def PS (r : Row) : Prop := ∀ p, p < 8 → nI p < r 198 → r (156 + 5 * p) < r 196
theorem ps_up {k : Nat} {v : Int32} {r : Row} (h : PS r) (hk : k < 156 ∨ 199 ≤ k ∨ k = 197 ∨ (k < 196 ∧ (k - 156) % 5 ≠ 0)) : PS (upd r k v) := fun p hp h8 => by
  rw [pk_un (by omega)] at h8
  rw [pk_un (by omega), pk_un (by omega)]
  exact h p hp h8
def Inv (D : Nat) (r : Row) : Prop := (∀ k b, bq D k = some b → inR b (r k)) ∧ (∀ k, isC k = true → r k ≤ r 199) ∧ (∀ k, 205 ≤ k → r k = 0) ∧ PS r
theorem bq_c {D z c : Nat} (hz : z < 4) (hc : c < 30) : bq D (35 * z + (5 + c)) = some (0, D) := by
  unfold bq
  rw [if_pos (by omega), if_neg (by omega), if_neg (by omega), if_neg (by omega)]
theorem bq_s0 {D z : Nat} (hz : z < 4) : bq D (35 * z) = some (0, 99) := by
  unfold bq
  rw [if_pos (by omega), if_pos (by omega)]
theorem bq_s1 {D z : Nat} (hz : z < 4) : bq D (35 * z + 1) = some (0, 20) := by
  unfold bq
  rw [if_pos (by omega), if_neg (by omega), if_pos (by omega)]
theorem bq_sf {D z j : Nat} (hz : z < 4) (h2 : 2 ≤ j) (hj : j < 5) : bq D (35 * z + j) = none := by
  unfold bq
  rw [if_pos (by omega), if_neg (by omega), if_neg (by omega), if_pos (by omega)]
theorem bq_t0 {D p : Nat} (hp : p < 8) : bq D (140 + 2 * p) = some (0, 3) := by
  unfold bq
  rw [if_neg (by omega), if_pos (by omega), if_pos (by omega)]
theorem bq_t1 {D p : Nat} (hp : p < 8) : bq D (141 + 2 * p) = some (0, 30) := by
  unfold bq
  rw [if_neg (by omega), if_pos (by omega), if_neg (by omega)]
theorem bq_p0 {D p : Nat} (hp : p < 8) : bq D (156 + 5 * p) = some (0, 3) := by
  unfold bq
  rw [if_neg (by omega), if_neg (by omega), if_pos (by omega), if_pos (by omega)]
theorem bq_p1 {D p : Nat} (hp : p < 8) : bq D (157 + 5 * p) = some (0, 29) := by
  unfold bq
  rw [if_neg (by omega), if_neg (by omega), if_pos (by omega), if_neg (by omega), if_pos (by omega)]
theorem bq_pf {D p j : Nat} (hp : p < 8) (h2 : 158 ≤ j) (hj : j < 161) : bq D (j + 5 * p) = none := by
  unfold bq
  rw [if_neg (by omega), if_neg (by omega), if_pos (by omega), if_neg (by omega), if_neg (by omega)]
theorem inv_at {D k : Nat} {b : Nat × Nat} {r : Row} (h : Inv D r) (hb : bq D k = some b) : ∃ n, r k = nI n ∧ b.1 ≤ n ∧ n ≤ b.2 := h.1 k b hb
theorem inv_196 {D : Nat} {r : Row} (h : Inv D r) : ∃ n, r 196 = nI n ∧ n ≤ 4 := by
  obtain ⟨n, h1, _, h3⟩ := inv_at (k := 196) (b := (0, 4)) h rfl
  exact ⟨n, h1, h3⟩
theorem inv_197 {D : Nat} {r : Row} (h : Inv D r) : ∃ n, r 197 = nI n ∧ n ≤ 8 := by
  obtain ⟨n, h1, _, h3⟩ := inv_at (k := 197) (b := (0, 8)) h rfl
  exact ⟨n, h1, h3⟩
theorem inv_198 {D : Nat} {r : Row} (h : Inv D r) : ∃ n, r 198 = nI n ∧ n ≤ 8 := by
  obtain ⟨n, h1, _, h3⟩ := inv_at (k := 198) (b := (0, 8)) h rfl
  exact ⟨n, h1, h3⟩
theorem inv_199 {D : Nat} {r : Row} (h : Inv D r) : ∃ n, r 199 = nI n ∧ n ≤ D := by
  obtain ⟨n, h1, _, h3⟩ := inv_at (k := 199) (b := (0, D)) h rfl
  exact ⟨n, h1, h3⟩
theorem inv_rt {D : Nat} {r : Row} (h : Inv D r) : rt r := by
  obtain ⟨n, h1, h2, h3⟩ := inv_at (k := 203) (b := (1, 9)) h rfl
  exact ⟨n, h2, h3, h1⟩
theorem inv_sw {D z : Nat} {r : Row} (h : Inv D r) (hz : z < 4) : sw r z := by
  obtain ⟨n, h1, h2, h3⟩ := inv_at h (bq_s0 hz)
  obtain ⟨n', h1', h2', h3'⟩ := inv_at h (bq_s1 hz)
  exact ⟨⟨n, h3, h1⟩, ⟨n', h3', h1'⟩⟩
theorem inv_dk {D : Nat} {r : Row} (h : Inv D r) (hd : 0 < r 199) : ∃ pm, dk r pm := by
  obtain ⟨n, h1, h3⟩ := inv_198 h
  exact ⟨n, h1, h3, hd⟩
theorem inv_up {D k : Nat} {v : Int32} {r : Row} (h : Inv D r) (hk : k < 205) (h9 : k ≠ 199) (hv : ∀ b, bq D k = some b → inR b v) (hc : isC k = true → v ≤ r 199) (hp : PS (upd r k v)) : Inv D (upd r k v) := by
  refine ⟨fun j b hb => ?_, fun j hj => ?_, fun j hj => ?_, hp⟩
  · by_cases e : j = k
    · subst e; rw [pk_us]; exact hv b hb
    · rw [pk_un e]; exact h.1 j b hb
  · rw [pk_un (Ne.symm h9)]
    by_cases e : j = k
    · subst e; rw [pk_us]; exact hc hj
    · rw [pk_un e]; exact h.2.1 j hj
  · rw [pk_un (by omega)]; exact h.2.2.1 j hj
theorem inv_free {D k : Nat} {v : Int32} {r : Row} (h : Inv D r) (hk : k < 205) (h9 : k ≠ 199) (hb : bq D k = none) (hc : isC k = false) (hk2 : k < 156 ∨ 199 ≤ k ∨ k = 197 ∨ (k < 196 ∧ (k - 156) % 5 ≠ 0) := by omega) : Inv D (upd r k v) :=
  inv_up h hk h9 (fun b e => by rw [hb] at e; cases e) (fun e => by rw [hc] at e; cases e) (ps_up h.2.2.2 hk2)
theorem inv_in {D k n : Nat} {b : Nat × Nat} {r : Row} (h : Inv D r) (hk : k < 205) (h9 : k ≠ 199) (hb : bq D k = some b) (hc : isC k = false) (h1 : b.1 ≤ n) (h2 : n ≤ b.2) (hk2 : k < 156 ∨ 199 ≤ k ∨ k = 197 ∨ (k < 196 ∧ (k - 156) % 5 ≠ 0) := by omega) : Inv D (upd r k (nI n)) :=
  inv_up h hk h9 (fun b' e => by rw [hb] at e; cases e; exact ⟨n, rfl, h1, h2⟩) (fun e => by rw [hc] at e; cases e) (ps_up h.2.2.2 hk2)
theorem inv_sf {D z j : Nat} {v : Int32} {r : Row} (h : Inv D r) (hz : z < 4) (h2 : 2 ≤ j) (hj : j < 5) : Inv D (upd r (35 * z + j) v) :=
  inv_free h (by omega) (by omega) (bq_sf hz h2 hj) (isC_lo hj)
theorem inv_pf {D p j : Nat} {v : Int32} {r : Row} (h : Inv D r) (hp : p < 8) (h2 : 158 ≤ j) (hj : j < 161) : Inv D (upd r (j + 5 * p) v) :=
  inv_free h (by omega) (by omega) (bq_pf hp h2 hj) (isC_hi (by omega))
theorem inv_s0 {D z n : Nat} {r : Row} (h : Inv D r) (hz : z < 4) (hn : n ≤ 99) : Inv D (upd r (35 * z) (nI n)) :=
  inv_in h (by omega) (by omega) (bq_s0 hz) (isC_lo (j := 0) (by omega)) (Nat.zero_le _) hn
theorem inv_s1 {D z n : Nat} {r : Row} (h : Inv D r) (hz : z < 4) (hn : n ≤ 20) : Inv D (upd r (35 * z + 1) (nI n)) :=
  inv_in h (by omega) (by omega) (bq_s1 hz) (isC_lo (by omega)) (Nat.zero_le _) hn
theorem inv_fz {D z c : Nat} {r : Row} (h : Inv D r) (hz : z < 4) (hc : c < 30) : Inv D (S_fz r z c) := by
  have := pn_le r
  refine itr_rng (fun s => Inv D s) (pn r) 0 _ (fun p s _ h2 h3 => ?_) ?_
  · unfold fzs
    split
    · unfold p3
      exact inv_pf (inv_pf (inv_pf h3 (by omega) (by omega) (by omega)) (by omega) (by omega) (by omega)) (by omega) (by omega) (by omega)
    · exact h3
  · refine inv_up h (by omega) (by omega) (fun b e => ?_) (fun _ => Int32.le_refl _) (ps_up h.2.2.2 (by omega))
    rw [bq_c hz hc] at e
    cases e
    obtain ⟨n, h1, h2⟩ := inv_199 h
    exact ⟨n, h1, Nat.zero_le _, h2⟩
theorem inv_d0 {D : Nat} {r : Row} (h : Inv D r) (hD : D < 2147483648) : (0 : Int32) ≤ r 199 := by
  obtain ⟨n, h1, h2⟩ := inv_199 h
  rw [h1]
  exact nI_pos' (by omega)
theorem inv_th {D z c : Nat} {r : Row} (h : Inv D r) (hD : D < 2147483648) (hz : z < 4) (hc : c < 30) : Inv D (S_th r z c) := by
  have := pn_le r
  refine itr_rng (fun s => Inv D s) (pn r) 0 _ (fun p s _ h2 h3 => ?_) ?_
  · unfold ths
    split
    · exact inv_pf h3 (by omega) (by omega) (by omega)
    · exact h3
  · refine inv_up h (by omega) (by omega) (fun b e => ?_) (fun _ => inv_d0 h hD) (ps_up h.2.2.2 (by omega))
    rw [bq_c hz hc] at e
    cases e
    exact ⟨0, rfl, Nat.zero_le _, Nat.zero_le _⟩
theorem inv_fz1 {D z c : Nat} {r : Row} (h : Inv D r) (hz : z < 4) (hc : c < 30) : Inv D (fz1 r z c) := inv_fz (inv_sf h hz (by omega) (by omega)) hz hc
theorem inv_th1 {D z c : Nat} {r : Row} (h : Inv D r) (hD : D < 2147483648) (hz : z < 4) (hc : c < 30) : Inv D (th1 r z c) := inv_th (inv_sf h hz (by omega) (by omega)) hD hz hc
theorem inv_fzl {D z : Nat} (hz : z < 4) : ∀ m c r, c + m ≤ 30 → Inv D r → Inv D (fzl z c m r)
  | 0, _, _, _, h => h
  | m + 1, c, r, hc, h => by
    show Inv D (if r (35 * z + 2) < nI (4 + c) then r else fzl z (c + 1) m (if fR r z c then r else fz1 r z c))
    split
    · exact h
    · apply inv_fzl hz m (c + 1) _ (by omega)
      split
      · exact h
      · exact inv_fz1 h hz (by omega)
theorem inv_thl {D z : Nat} (hD : D < 2147483648) (hz : z < 4) : ∀ m c r, c + m ≤ 30 → Inv D r → Inv D (thl z c m r)
  | 0, _, _, _, h => h
  | m + 1, c, r, hc, h => by
    show Inv D (if r (35 * z + 3) < nI (3 + c) then r else thl z (c + 1) m (if fR r z c then th1 r z c else r))
    split
    · exact h
    · apply inv_thl hD hz m (c + 1) _ (by omega)
      split
      · exact inv_th1 h hD hz (by omega)
      · exact h
theorem inv_ls {D z : Nat} {r : Row} (h : Inv D r) (hD : D < 2147483648) (hz : z < 4) : Inv D (S_ls r z) := by
  unfold S_ls
  split
  · exact h
  · split
    · rcases ld_or (fR r z) 30 with ⟨h3, _⟩ | ⟨c, hc, h3, _⟩
      · rw [if_pos h3]; exact h
      · rw [h3, if_neg (m1_ne (by omega)), cl_nI (by omega)]
        exact inv_th h hD hz hc
    · exact h
theorem inv_wt {D z w' : Nat} {t : Int32} {r : Row} (h : Inv D r) (hz : z < 4) (ht : dg t) (hw : w' ≤ 30) : Inv D (S_wt r z t (nI w')) := by
  obtain ⟨a, ha, hsn⟩ := sn1_nI (inv_sw h hz) hw
  obtain ⟨f, hf1, hf9, hf⟩ := inv_rt h
  unfold S_wt
  rcases dg_cases ht with h0 | ⟨u, hu1, hu2, h1⟩ | ⟨u, hu1, hu2, h1⟩
  · subst h0
    rw [if_pos (by decide), if_pos (by decide), hsn]
    exact inv_s0 h hz ha
  · subst h1
    have hml : ml1 r z (nI u) (nI w') = nI (min (u * f) a) := by
      unfold ml1
      rw [hf, mul_nI, hsn, mn_nI (by have := Nat.mul_le_mul hu2 hf9; omega) (by omega)]
    have hmle : min (u * f) a ≤ a := Nat.min_le_right _ _
    rw [if_neg (nI_nle (by omega) (by omega)), hml, hsn, sub_nI hmle]
    split
    · exact inv_sf (inv_sf (inv_s0 h hz (by omega)) hz (by omega) (by omega)) hz (by omega) (by omega)
    · exact inv_sf (inv_s0 h hz (by omega)) hz (by omega) (by omega)
  · subst h1
    have hneg := neg_nI_lt hu1 (by omega : u < 2147483648)
    rw [if_pos (Int32.le_of_lt hneg), if_neg (Int32.not_le.mpr hneg), hsn]
    exact inv_sf (inv_sf (inv_sf (inv_s0 h hz ha) hz (by omega) (by omega)) hz (by omega) (by omega)) hz (by omega) (by omega)
theorem inv_ds {D z w' : Nat} {t : Int32} {r : Row} (h : Inv D r) (hD : D < 2147483648) (hz : z < 4) (ht : dg t) (hw : w' ≤ 30) : Inv D (S_ds r z t (nI w')) :=
  inv_ls (inv_thl hD hz 30 0 _ (by omega) (inv_fzl hz 30 0 _ (by omega) (inv_wt h hz ht hw))) hD hz
theorem inv_199u {D d : Nat} {r : Row} (h : Inv D r) (hr : r 199 = nI d) (hd : d + 1 ≤ D) (hD : D < 2147483648) : Inv D (upd r 199 (nI (d + 1))) := by
  refine ⟨fun j b hb => ?_, fun j hj => ?_, fun j hj => ?_, ps_up h.2.2.2 (by omega)⟩
  · by_cases e : j = 199
    · subst e
      rw [pk_us]
      have hb' : some (0, D) = some b := hb
      cases hb'
      exact ⟨d + 1, rfl, Nat.zero_le _, hd⟩
    · rw [pk_un e]; exact h.1 j b hb
  · have e : j ≠ 199 := fun e => by
      subst e
      exact absurd hj (by decide)
    rw [pk_us, pk_un e]
    have := h.2.1 j hj
    rw [hr] at this
    exact Int32.le_trans this ((le_nI (by omega) (by omega)).mpr (by omega))
  · rw [pk_un (by omega)]; exact h.2.2.1 j hj
theorem bq_mono {D E k : Nat} (hE : D ≤ E) : bq E k = bq D k ∨ (bq E k = some (0, E) ∧ bq D k = some (0, D)) := by
  unfold bq
  by_cases h1 : k < 140
  · rw [if_pos h1, if_pos h1]
    by_cases h2 : k % 35 = 0
    · rw [if_pos h2, if_pos h2]; exact Or.inl rfl
    · rw [if_neg h2, if_neg h2]
      by_cases h3 : k % 35 = 1
      · rw [if_pos h3, if_pos h3]; exact Or.inl rfl
      · rw [if_neg h3, if_neg h3]
        by_cases h4 : k % 35 < 5
        · rw [if_pos h4, if_pos h4]; exact Or.inl rfl
        · rw [if_neg h4, if_neg h4]; exact Or.inr ⟨rfl, rfl⟩
  · rw [if_neg h1, if_neg h1]
    by_cases h9 : k = 199
    · subst h9; exact Or.inr ⟨rfl, rfl⟩
    · rw [if_neg h9, if_neg h9]; exact Or.inl rfl
theorem inv_mono {D E : Nat} {r : Row} (h : Inv D r) (hE : D ≤ E) : Inv E r := by
  refine ⟨fun k b hb => ?_, h.2⟩
  rcases bq_mono (k := k) hE with e | ⟨e1, e2⟩
  · rw [e] at hb; exact h.1 k b hb
  · rw [e1] at hb
    cases hb
    obtain ⟨n, h1, h2, h3⟩ := inv_at h e2
    exact ⟨n, h1, h2, by omega⟩
