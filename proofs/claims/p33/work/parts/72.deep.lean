theorem cf_pos {p : Nat → Bool} : ∀ m k c, k ≤ c → c < k + m → p c = true → 0 < cf p k m
  | 0, _, _, h1, h2, _ => by omega
  | m + 1, k, c, h1, h2, h3 => by
    unfold cf
    by_cases e : c = k
    · subst e
      rw [if_pos h3]
      omega
    · have := cf_pos m (k + 1) c (by omega) (by omega) h3
      omega
theorem cf_zero {p : Nat → Bool} : ∀ m k, (∀ j, k ≤ j → j < k + m → p j = false) → cf p k m = 0
  | 0, _, _ => rfl
  | m + 1, k, h => by
    unfold cf
    rw [h k (Nat.le_refl k) (by omega), cf_zero m (k + 1) (fun j h1 h2 => h j (by omega) (by omega))]
    rfl
theorem deep_cases (r : Row) (s : Nat) : (ld (fR r s) 30 = -1 ∧ cf (fR r s) 0 30 = 0) ∨ ∃ c, c < 30 ∧ ld (fR r s) 30 = nI c ∧ 0 < cf (fR r s) 0 30 := by
  rcases ld_or (fR r s) 30 with ⟨h1, h2⟩ | ⟨c, h1, h2, h3, _⟩
  · exact Or.inl ⟨h1, cf_zero 30 0 (fun j _ h => h2 j (by omega))⟩
  · exact Or.inr ⟨c, h1, h2, cf_pos 30 0 c (by omega) (by omega) h3⟩
def dinv (r : Row) (v1 v2 v3 : Int32) : Prop := (v1 = -1 ∧ v2 = -1 ∧ v3 = 0) ∨ ∃ b c, b < 4 ∧ c < 30 ∧ v1 = nI b ∧ v2 = nI c ∧ ld (fR r b) 30 = nI c ∧ v3 = nI (cf (fR r b) 0 30) ∧ 0 < cf (fR r b) 0 30
theorem deep_l {μ ν : Mem} {a : Nat} (hn : μ 0 = enc (ν 1)) (ha : ν 1 196 = nI a) (ha4 : a ≤ 4) : ∀ m n n' k v1 v2 v3, dinv (ν 1) v1 v2 v3 → k + m = a → m < n → 3 * m < n' → ∃ v, fl_X4_deepest μ n v1 v2 v3 (nI k) = some v ∧ fl_X5_deepest n' 1 ν 0 v1 (nI k) 0 = some (v, ν) := by
  intro m
  induction m with
  | zero =>
    intro n n' k v1 v2 v3 _ hk hn1 hn2
    obtain ⟨n, rfl⟩ : ∃ q, n = q + 1 := ⟨n - 1, by omega⟩
    obtain ⟨n', rfl⟩ : ∃ q, n' = q + 1 := ⟨n' - 1, by omega⟩
    have e : k = a := by omega
    subst e
    refine ⟨v1, ?_, ?_⟩
    · show fb_X4_deepest_1 μ (fl_X4_deepest μ n) v1 v2 v3 (nI k) = _
      unfold fb_X4_deepest_1
      rw [hn, enc_hi (by omega), ha, if_pos ((le_nI (by omega) (by omega)).mpr (Nat.le_refl k))]
    · show fb_X5_deepest_1 (fl_X5_deepest n') ν 0 v1 (nI k) 0 = _
      unfold fb_X5_deepest_1
      rw [show (196 : Int32).toNatClampNeg = 196 from rfl, ha, if_pos ((le_nI (by omega) (by omega)).mpr (Nat.le_refl k))]
  | succ m IH =>
    intro n n' k v1 v2 v3 hv hk h1 h2
    obtain ⟨n, rfl⟩ : ∃ q, n = q + 1 := ⟨n - 1, by omega⟩
    obtain ⟨n', rfl⟩ : ∃ q, n' = q + 3 := ⟨n' - 3, by omega⟩
    have hak : ¬ nI a ≤ nI k := fun x => by rw [le_nI (by omega) (by omega)] at x; omega
    have ok : ¬ oob (nI k) 4 := by rw [oob_nI (by omega)]; omega
    have ck : (nI k).toNatClampNeg = k := cl_nI (by omega)
    have e1 : nI k + 1 = nI (k + 1) := add_nI k 1
    have hk4 : k < 4 := by omega
    have g3 : f_X2_lowestWithin (enc (ν 1)) k 30 = some (ld (fR (ν 1) k) 30) := E2_lowestWithin (e := 30) hk4 (by omega)
    have g1 : f_X2_frozenWithin (enc (ν 1)) k 30 = some (nI (cf (fR (ν 1) k) 0 30)) := E2_frozenWithin (e := 30) hk4 (by omega)
    have ih := fun w1 w2 w3 hw => IH n n' (k + 1) w1 w2 w3 hw (by omega) (by omega) (by omega)
    have hcl := cf_le (fR (ν 1) k) 30 0
    show ∃ v, fb_X4_deepest_1 μ (fl_X4_deepest μ n) v1 v2 v3 (nI k) = some v ∧ fb_X5_deepest_1 (fl_X5_deepest (n' + 2)) ν 0 v1 (nI k) 0 = some (v, ν)
    unfold fb_X4_deepest_1 fb_X5_deepest_1
    rw [hn, enc_hi (by omega), show (196 : Int32).toNatClampNeg = 196 from rfl, ha, if_neg hak, if_neg hak, if_neg ok]
    simp only [ck, g3, g1, ok, if_false, Option.bind_some]
    rw [X5_cells hk4, Option.bind_some, e1]
    have s2 : ∀ t w, fl_X5_deepest (n' + 2) 2 ν t w (nI k) 0 = (if w = -1 then fl_X5_deepest (n' + 1) 3 ν 1 w (nI k) t else (f_X5_lowest (ν 1) (nI k)).bind fun r6 => (f_X5_lowest (ν 1) w).bind fun r8 => fl_X5_deepest (n' + 1) 3 ν (r6 - r8) w (nI k) t) := fun _ _ => rfl
    have s3 : ∀ t w x, fl_X5_deepest (n' + 1) 3 ν t w (nI k) x = (if x = 0 then fl_X5_deepest n' 1 ν 0 w (nI (k + 1)) 0 else if 0 < t then fl_X5_deepest n' 1 ν 0 (nI k) (nI (k + 1)) 0 else if t = 0 then (f_X5_cells (ν 1) (nI k)).bind fun r13 => (f_X5_cells (ν 1) w).bind fun r15 => if r13 ≤ r15 then fl_X5_deepest n' 1 ν 0 w (nI (k + 1)) 0 else fl_X5_deepest n' 1 ν 0 (nI k) (nI (k + 1)) 0 else fl_X5_deepest n' 1 ν 0 w (nI (k + 1)) 0) := fun t w x => by
      show fb_X5_deepest_3 (fl_X5_deepest n') ν t w (nI k) x = _
      unfold fb_X5_deepest_3
      rw [e1]
    rcases deep_cases (ν 1) k with ⟨q1, q2⟩ | ⟨c, q0, q1, q2⟩
    · have z0 : nI 0 ≤ (0 : Int32) := by decide
      rw [q1, q2]
      rcases hv with ⟨rfl, rfl, rfl⟩ | ⟨b, c', hb, hc', rfl, rfl, hv4, rfl, hv6⟩
      · rw [if_neg (show ¬ (-1 : Int32) < -1 by decide), if_pos (show (-1 : Int32) = -1 from rfl)]
        simp only [z0, if_true]
        rw [s2, if_pos rfl, s3, if_pos rfl]
        exact ih _ _ _ (Or.inl ⟨rfl, rfl, rfl⟩)
      · have n1 : ¬ nI c' < (-1 : Int32) := fun x => by
          have := Int32.lt_trans x (m1_lt (a := c') (by omega))
          exact Int32.lt_irrefl this
        have n2 : ¬ (-1 : Int32) = nI c' := fun x => m1_ne (a := c') (by omega) x.symm
        rw [if_neg n1, if_neg n2]
        simp only [z0, if_true]
        rw [s2, if_neg (m1_ne (by omega)), X5_lowest hk4, Option.bind_some, X5_lowest hb, Option.bind_some, s3, if_pos rfl]
        exact ih _ _ _ (Or.inr ⟨b, c', hb, hc', rfl, rfl, hv4, rfl, hv6⟩)
    · have hin : dinv (ν 1) (nI k) (nI c) (nI (cf (fR (ν 1) k) 0 30)) := Or.inr ⟨k, c, hk4, q0, rfl, rfl, q1, rfl, q2⟩
      rw [q1, if_neg (nI_nle q2 (by omega))]
      rcases hv with ⟨rfl, rfl, rfl⟩ | ⟨b, c', hb, hc', rfl, rfl, hv4, rfl, hv6⟩
      · rw [if_pos (m1_lt (by omega)), s2, if_pos rfl, s3, if_neg i10, if_pos (by decide)]
        exact ih _ _ _ hin
      · have hbl := cf_le (fR (ν 1) b) 30 0
        rw [s2, if_neg (m1_ne (by omega)), X5_lowest hk4, Option.bind_some, X5_lowest hb, Option.bind_some, s3, if_neg i10, X5_cells hk4, X5_cells hb, q1, hv4, Option.bind_some, Option.bind_some]
        have ht := pk_sub_toInt (a := c) (b := c') (by omega) (by omega)
        have hpos : (0 < nI c - nI c') ↔ c' < c := by
          rw [Int32.lt_iff_toInt_lt, ht]
          have : (0 : Int32).toInt = 0 := rfl
          omega
        have hz : (nI c - nI c' = 0) ↔ c = c' := by
          rw [← Int32.toInt_inj, ht]
          have : (0 : Int32).toInt = 0 := rfl
          omega
        by_cases g : c' < c
        · rw [if_pos ((lt_nI (by omega) (by omega)).mpr g), if_pos (hpos.mpr g)]
          exact ih _ _ _ hin
        · rw [if_neg (fun x => g ((lt_nI (by omega) (by omega)).mp x)), if_neg (fun x => g (hpos.mp x))]
          by_cases g2 : c = c'
          · rw [if_pos (by rw [g2]), if_pos (hz.mpr g2)]
            by_cases g3 : nI (cf (fR (ν 1) k) 0 30) ≤ nI (cf (fR (ν 1) b) 0 30)
            · rw [if_pos g3, if_pos g3]
              exact ih _ _ _ (Or.inr ⟨b, c', hb, hc', rfl, rfl, hv4, rfl, hv6⟩)
            · rw [if_neg g3, if_neg g3]
              exact ih _ _ _ hin
          · rw [if_neg (fun x => g2 ((eq_nI (by omega) (by omega)).mp x)), if_neg (fun x => g2 (hz.mp x))]
            exact ih _ _ _ (Or.inr ⟨b, c', hb, hc', rfl, rfl, hv4, rfl, hv6⟩)
theorem call_deepest {μ ν : Mem} (h : Rel μ ν) : ∃ v ν', f_X4_deepest μ = some v ∧ f_X5_deepest ν = some (v, ν') ∧ Rel μ ν' := by
  have hR := rel_rf (a := 0) h
  obtain ⟨d, hg⟩ := h.1.2
  obtain ⟨a, ha, ha4⟩ := inv_196 hg.1
  obtain ⟨v, h1, h2⟩ := deep_l (μ := μ) (ν := rf ν 0) (a := a) (by rw [rf_o (by omega)]; exact h.1.1) (by rw [rf_o (by omega)]; exact ha) ha4 a FU FU 0 (-1) (-1) 0 (Or.inl ⟨rfl, rfl, rfl⟩) (by omega) (fu_lt (by omega)) (by have : FU = 1000000000 := rfl; omega)
  exact ⟨v, rf ν 0, h1, h2, hR⟩
/-! a layer -/
theorem nth_ex (p : Nat → Bool) : ∀ m q, q < cf p 0 m → ∃ c, c < m ∧ p c = true ∧ cf p 0 c = q
  | 0, q, h => absurd h (Nat.not_lt_zero q)
  | m + 1, q, h => by
    rw [cf_last, Nat.zero_add] at h
    by_cases h1 : q < cf p 0 m
    · obtain ⟨c, g1, g2, g3⟩ := nth_ex p m q h1
      exact ⟨c, by omega, g2, g3⟩
    · cases hp : p m with
      | false =>
        rw [hp] at h
        simp at h
        exact absurd h h1
      | true =>
        rw [hp] at h
        simp at h
        exact ⟨m, by omega, hp, by omega⟩
theorem cf_split (p : Nat → Bool) : ∀ j k, cf p 0 (k + j) = cf p 0 k + cf p k j
  | 0, k => rfl
  | j + 1, k => by
    have h1 := cf_last p (k + j) 0
    have h2 := cf_last p j k
    rw [Nat.zero_add] at h1
    rw [show k + (j + 1) = k + j + 1 by omega, h1, h2, cf_split p j k]
    omega
theorem cf_mono (p : Nat → Bool) {c d : Nat} (h : c ≤ d) : cf p 0 c ≤ cf p 0 d := by
  obtain ⟨j, rfl⟩ : ∃ j, d = c + j := ⟨d - c, by omega⟩
  rw [cf_split]
  omega
theorem cf_flat {p : Nat → Bool} {c d : Nat} (h : c ≤ d) (hp : ∀ j, c ≤ j → j < d → p j = false) : cf p 0 d = cf p 0 c := by
  obtain ⟨j, rfl⟩ : ∃ j, d = c + j := ⟨d - c, by omega⟩
  rw [cf_split, cf_zero j c (fun i h1 h2 => hp i h1 (by omega))]
  rfl
theorem cf_step {p : Nat → Bool} {c : Nat} (h : p c = true) : cf p 0 (c + 1) = cf p 0 c + 1 := by
  rw [cf_last, Nat.zero_add, h]
  rfl
theorem E2_beginsLayer {r : Row} {z c : Nat} (hz : z < 4) (hc : c < 30) : f_X2_beginsLayer (enc r) z (nI c) = some (b2i (bgn (fR r z) c)) := by
  rw [X2_beginsLayer hc, bgn_enc hz hc]
theorem X2_first_y {r : Row} {z q c : Nat} (hz : z < 4) (hc : c < 30) (hb : bgn (fR r z) c = true) (hq : cf (bgn (fR r z)) 0 c = q) : ∀ m n k, k + m = c → m < n → fl_X2_firstOfLayer (enc r) z (nI q) n (nI (cf (bgn (fR r z)) 0 k) - 1) (nI k) = some (nI c)
  | 0, n + 1, k, hk, _ => by
    have e : k = c := by omega
    subst e
    show fb_X2_firstOfLayer_1 (enc r) z (nI q) (fl_X2_firstOfLayer (enc r) z (nI q) n) (nI (cf (bgn (fR r z)) 0 k) - 1) (nI k) = _
    unfold fb_X2_firstOfLayer_1
    rw [if_neg (fun x => by rw [show (30 : Int32) = nI 30 from rfl, le_nI (by omega) (by omega)] at x; omega), E2_beginsLayer hz hc, Option.bind_some, hb, b2i_t, if_neg i10, Int32.sub_add_cancel, hq, if_pos rfl]
  | m + 1, n + 1, k, hk, hn => by
    have ih := X2_first_y hz hc hb hq m n (k + 1) (by omega) (by omega)
    have e1 : nI k + 1 = nI (k + 1) := add_nI k 1
    have hle := cf_le (bgn (fR r z)) c 0
    show fb_X2_firstOfLayer_1 (enc r) z (nI q) (fl_X2_firstOfLayer (enc r) z (nI q) n) (nI (cf (bgn (fR r z)) 0 k) - 1) (nI k) = _
    unfold fb_X2_firstOfLayer_1
    rw [if_neg (fun x => by rw [show (30 : Int32) = nI 30 from rfl, le_nI (by omega) (by omega)] at x; omega), E2_beginsLayer hz (by omega), Option.bind_some, e1]
    cases hb2 : bgn (fR r z) k with
    | false =>
      rw [b2i_f, if_pos rfl]
      rw [cf_last, Nat.zero_add, hb2] at ih
      exact ih
    | true =>
      have h1 := cf_step hb2
      have h2 := cf_mono (bgn (fR r z)) (show k + 1 ≤ c by omega)
      rw [b2i_t, if_neg i10, Int32.sub_add_cancel, if_neg (fun x => by rw [eq_nI (by omega) (by omega)] at x; omega)]
      rw [h1, nI_m1] at ih
      exact ih
theorem X2_first_n {r : Row} {z : Nat} {a : Int32} (hz : z < 4) (ha : a < 0 ∨ nI (cf (bgn (fR r z)) 0 30) ≤ a) : ∀ m n k, k + m = 30 → m < n → fl_X2_firstOfLayer (enc r) z a n (nI (cf (bgn (fR r z)) 0 k) - 1) (nI k) = some (-1)
  | 0, n + 1, k, hk, _ => by
    have e : k = 30 := by omega
    subst e
    show fb_X2_firstOfLayer_1 (enc r) z a (fl_X2_firstOfLayer (enc r) z a n) _ (nI 30) = _
    unfold fb_X2_firstOfLayer_1
    rw [if_pos (by decide)]
  | m + 1, n + 1, k, hk, hn => by
    have ih := X2_first_n hz ha m n (k + 1) (by omega) (by omega)
    have e1 : nI k + 1 = nI (k + 1) := add_nI k 1
    have hle := cf_le (bgn (fR r z)) 30 0
    show fb_X2_firstOfLayer_1 (enc r) z a (fl_X2_firstOfLayer (enc r) z a n) (nI (cf (bgn (fR r z)) 0 k) - 1) (nI k) = _
    unfold fb_X2_firstOfLayer_1
    rw [if_neg (fun x => by rw [show (30 : Int32) = nI 30 from rfl, le_nI (by omega) (by omega)] at x; omega), E2_beginsLayer hz (by omega), Option.bind_some, e1]
    cases hb2 : bgn (fR r z) k with
    | false =>
      rw [b2i_f, if_pos rfl]
      rw [cf_last, Nat.zero_add, hb2] at ih
      exact ih
    | true =>
      have h1 := cf_step hb2
      have h2 := cf_mono (bgn (fR r z)) (show k + 1 ≤ 30 by omega)
      have hne : ¬ nI (cf (bgn (fR r z)) 0 k) = a := fun x => by
        rw [← x] at ha
        rcases ha with ha | ha
        · exact nI_pos (by omega) ha
        · rw [le_nI (by omega) (by omega)] at ha
          omega
      rw [b2i_t, if_neg i10, Int32.sub_add_cancel, if_neg hne]
      rw [h1, nI_m1] at ih
      exact ih
theorem X5_layerAt_l {r : Row} {z q c : Nat} {a2 : Int32} (hz : z < 4) (hc : c < 30) (hb : bgn (fR r z) c = true) (hq : cf (bgn (fR r z)) 0 c = q) : ∀ m n k, k + m = c → m + 1 < n → fl_X5_layerAt r (nI z) a2 n (nI k - 1) (nI (q - cf (bgn (fR r z)) 0 k)) = some (nI c)
  | 0, n + 2, k, hk, _ => by
    have e : k = c := by omega
    subst e
    show fb_X5_layerAt_1 r (nI z) a2 (fl_X5_layerAt r (nI z) a2 (n + 1)) (nI k - 1) (nI (q - cf (bgn (fR r z)) 0 k)) = _
    have hle := cf_le (bgn (fR r z)) k 0
    unfold fb_X5_layerAt_1
    rw [if_neg (nI_pos (by omega)), Int32.sub_add_cancel, X5_begins hz hc, Option.bind_some, hb, b2i_t, if_neg i10, hq, Nat.sub_self]
    show fb_X5_layerAt_1 r (nI z) a2 (fl_X5_layerAt r (nI z) a2 n) (nI k) (nI 0 - 1) = _
    unfold fb_X5_layerAt_1
    rw [if_pos (by decide)]
  | m + 1, n + 1, k, hk, hn => by
    have ih := X5_layerAt_l (a2 := a2) hz hc hb hq m n (k + 1) (by omega) (by omega)
    have hle := cf_le (bgn (fR r z)) c 0
    show fb_X5_layerAt_1 r (nI z) a2 (fl_X5_layerAt r (nI z) a2 n) (nI k - 1) (nI (q - cf (bgn (fR r z)) 0 k)) = _
    unfold fb_X5_layerAt_1
    rw [nI_m1] at ih
    rw [if_neg (nI_pos (by omega)), Int32.sub_add_cancel, X5_begins hz (by omega), Option.bind_some]
    cases hb2 : bgn (fR r z) k with
    | false =>
      rw [b2i_f, if_pos rfl, Int32.sub_zero]
      rw [cf_last, Nat.zero_add, hb2] at ih
      exact ih
    | true =>
      have h1 := cf_step hb2
      have h2 := cf_mono (bgn (fR r z)) (show k + 1 ≤ c by omega)
      rw [b2i_t, if_neg i10, show (1 : Int32) = nI 1 from rfl, sub_nI (by omega), show q - cf (bgn (fR r z)) 0 k - 1 = q - cf (bgn (fR r z)) 0 (k + 1) by omega]
      exact ih
theorem X5_layerAt {r : Row} {z q c : Nat} (hz : z < 4) (hc : c < 30) (hb : bgn (fR r z) c = true) (hq : cf (bgn (fR r z)) 0 c = q) : f_X5_layerAt r (nI z) (nI q) = some (nI c) :=
  X5_layerAt_l hz hc hb hq c FU 0 (by omega) (fu_lt (by omega))
def ens (r : Row) (z c : Nat) : Nat := fst (fun j => fR r z j == false) c (30 - c)
theorem X2_end_l {r : Row} {z : Nat} {a : Int32} (hz : z < 4) : ∀ m n k, m < n → k + m = 30 → fl_X2_endOfLayer (enc r) z a n (nI k) = some (nI (fst (fun j => fR r z j == false) k m))
  | 0, n + 1, k, _, hk => by
    have e : k = 30 := by omega
    subst e
    show fb_X2_endOfLayer_1 (enc r) z a (fl_X2_endOfLayer (enc r) z a n) (nI 30) = _
    unfold fb_X2_endOfLayer_1
    rw [if_pos (by decide)]
    rfl
  | m + 1, n + 1, k, hn, hk => by
    have ih := X2_end_l (r := r) (a := a) hz m n (k + 1) (by omega) (by omega)
    have e1 : nI k + 1 = nI (k + 1) := add_nI k 1
    show fb_X2_endOfLayer_1 (enc r) z a (fl_X2_endOfLayer (enc r) z a n) (nI k) = some (nI (if (fR r z k == false) = true then k else fst (fun j => fR r z j == false) (k + 1) m))
    unfold fb_X2_endOfLayer_1
    rw [if_neg (fun x => by rw [show (30 : Int32) = nI 30 from rfl, le_nI (by omega) (by omega)] at x; omega), E2_isFrozen hz (by omega), Option.bind_some, e1, ih]
    cases fR r z k <;> rfl
theorem X5_behind_l {r : Row} {z : Nat} {a : Int32} (hz : z < 4) : ∀ m n k, m < n → k + m = 30 → fl_X5_behind r (nI z) a n (nI k) = some (nI (fst (fun j => fR r z j == false) k m))
  | 0, n + 1, k, _, hk => by
    have e : k = 30 := by omega
    subst e
    show fb_X5_behind_1 r (nI z) a (fl_X5_behind r (nI z) a n) (nI 30) = _
    unfold fb_X5_behind_1
    rw [if_pos (by decide)]
    rfl
  | m + 1, n + 1, k, hn, hk => by
    have ih := X5_behind_l (r := r) (a := a) hz m n (k + 1) (by omega) (by omega)
    have e1 : nI k + 1 = nI (k + 1) := add_nI k 1
    show fb_X5_behind_1 r (nI z) a (fl_X5_behind r (nI z) a n) (nI k) = some (nI (if (fR r z k == false) = true then k else fst (fun j => fR r z j == false) (k + 1) m))
    unfold fb_X5_behind_1
    rw [if_neg (fun x => by rw [show (30 : Int32) = nI 30 from rfl, le_nI (by omega) (by omega)] at x; omega), X5_frozen hz (by omega), Option.bind_some, e1, ih]
    cases fR r z k <;> rfl
theorem fst_in (p : Nat → Bool) : ∀ m k j, k ≤ j → j < fst p k m → p j = false
  | 0, k, j, h1, h2 => by
    have : fst p k 0 = k := rfl
    omega
  | m + 1, k, j, h1, h2 => by
    cases hp : p k with
    | true => rw [fst_pos p hp] at h2; omega
    | false =>
      rw [fst_neg p hp] at h2
      by_cases e : j = k
      · rw [e]; exact hp
      · exact fst_in p m (k + 1) j (by omega) h2
theorem fst_at (p : Nat → Bool) : ∀ m k, fst p k m < k + m → p (fst p k m) = true
  | 0, k, h => by
    have : fst p k 0 = k := rfl
    omega
  | m + 1, k, h => by
    cases hp : p k with
    | true => rw [fst_pos p hp]; exact hp
    | false =>
      rw [fst_neg p hp] at h ⊢
      exact fst_at p m (k + 1) (by omega)
theorem X2_gap_l {r : Row} {z e : Nat} (hz : z < 4) : ∀ m n k, m < n → k + m = 30 → e ≤ k → fl_X2_gapBelow (enc r) z (nI e) n (nI k) = some (if fst (fR r z) k m < 30 then nI (fst (fR r z) k m - e) else 0)
  | 0, n + 1, k, _, hk, _ => by
    have e : k = 30 := by omega
    subst e
    show fb_X2_gapBelow_1 (enc r) z _ (fl_X2_gapBelow (enc r) z _ n) (nI 30) = _
    unfold fb_X2_gapBelow_1
    rw [if_pos (by decide)]
    rfl
  | m + 1, n + 1, k, hn, hk, he => by
    have ih := X2_gap_l (r := r) (e := e) hz m n (k + 1) (by omega) (by omega) (by omega)
    have e1 : nI k + 1 = nI (k + 1) := add_nI k 1
    show fb_X2_gapBelow_1 (enc r) z (nI e) (fl_X2_gapBelow (enc r) z (nI e) n) (nI k) = _
    unfold fb_X2_gapBelow_1
    rw [if_neg (fun x => by rw [show (30 : Int32) = nI 30 from rfl, le_nI (by omega) (by omega)] at x; omega), E2_isFrozen hz (by omega), Option.bind_some, e1, ih]
    cases hf : fR r z k with
    | false => rw [b2i_f, if_pos rfl, fst_neg _ hf]
    | true => rw [b2i_t, if_neg i10, fst_pos _ hf, if_pos (by omega), sub_nI he]
def ost (r : Row) (z c : Nat) (v : Int32) : Int32 := mn v (r (35 * z + (5 + c)))
theorem X2_old_l {r : Row} {z e : Nat} {a : Int32} (hz : z < 4) (he : e ≤ 30) : ∀ m n k v, m < n → k + m = e → (∀ j, k ≤ j → j < e → fR r z j = true) → fl_X2_oldestDay (enc r) z a (nI e) n v (nI k) = some (itr (ost r z) k m v)
  | 0, n + 1, k, v, _, hk, _ => by
    have e : k = e := by omega
    subst e
    show fb_X2_oldestDay_1 (enc r) z a (nI k) (fl_X2_oldestDay (enc r) z a (nI k) n) v (nI k) = _
    unfold fb_X2_oldestDay_1
    rw [if_pos ((le_nI (by omega) (by omega)).mpr (Nat.le_refl k))]
    rfl
  | m + 1, n + 1, k, v, hn, hk, hf => by
    have ih := fun v => X2_old_l (r := r) (a := a) hz he m n (k + 1) v (by omega) (by omega) (fun j h1 h2 => hf j (by omega) h2)
    have e1 : nI k + 1 = nI (k + 1) := add_nI k 1
    have hfk := hf k (Nat.le_refl k) (by omega)
    have ok : ¬ oob (nI k) 30 := by rw [oob_nI (by omega)]; omega
    have ck : (nI k).toNatClampNeg = k := cl_nI (by omega)
    show fb_X2_oldestDay_1 (enc r) z a (nI e) (fl_X2_oldestDay (enc r) z a (nI e) n) v (nI k) = _
    unfold fb_X2_oldestDay_1
    rw [if_neg (fun x => by rw [le_nI (by omega) (by omega)] at x; omega), if_neg (fun x => by rw [show (30 : Int32) = nI 30 from rfl, le_nI (by omega) (by omega)] at x; omega), E2_isFrozen hz (by omega), Option.bind_some, hfk, b2i_t, if_neg i10, if_neg ok]
    simp only [ck, enc_fR hz (by omega : k < 30) hfk, e1, mn_lt, ih]
    rfl
theorem X5_old_l {ν : Mem} {z e : Nat} {a2 a3 t0 v5 : Int32} (hz : z < 4) (he : e ≤ 30) : ∀ m n k v, m < n → k + m = e → fl_X5_layerOf (nI z) a2 a3 n 3 ν t0 v5 (nI e) v (nI k) = some (if a3 = 0 then v5 else if a3 = 1 then nI e - v5 else itr (ost (ν 1) z) k m v, ν)
  | 0, n + 1, k, v, _, hk => by
    have e : k = e := by omega
    subst e
    show fb_X5_layerOf_3 (nI z) a2 a3 (fl_X5_layerOf (nI z) a2 a3 n) ν t0 v5 (nI k) v (nI k) = _
    unfold fb_X5_layerOf_3
    rw [if_pos ((le_nI (by omega) (by omega)).mpr (Nat.le_refl k))]
    by_cases g0 : a3 = 0
    · rw [if_pos g0, if_pos g0]
    · rw [if_neg g0, if_neg g0]
      by_cases g1 : a3 = 1
      · rw [if_pos g1, if_pos g1]
      · rw [if_neg g1, if_neg g1]
        rfl
  | m + 1, n + 1, k, v, hn, hk => by
    have ih := fun t v => X5_old_l (ν := ν) (a2 := a2) (a3 := a3) (t0 := t) (v5 := v5) hz he m n (k + 1) v (by omega) (by omega)
    have e1 : nI k + 1 = nI (k + 1) := add_nI k 1
    have o2 : ¬ oob (nI (35 * z + (5 + k))) 205 := by rw [oob_nI (by omega)]; omega
    have c2 : (nI (35 * z + (5 + k))).toNatClampNeg = 35 * z + (5 + k) := cl_nI (by omega)
    show fb_X5_layerOf_3 (nI z) a2 a3 (fl_X5_layerOf (nI z) a2 a3 n) ν t0 v5 (nI e) v (nI k) = _
    unfold fb_X5_layerOf_3
    rw [if_neg (fun x => by rw [le_nI (by omega) (by omega)] at x; omega), X5_cell, Option.bind_some, if_neg o2, X5_min, Option.bind_some, e1, ih, c2]
    rfl
