/-! the frozen cells in the order of their days -/
def kyN (r : Row) (s c : Nat) : Nat := 1000 * (r (35 * s + (5 + c))).toNatClampNeg + (100 * s + c)
def Cc (r : Row) (a x : Nat) : Nat := sf (fun s => cf (fun c => fR r s c && decide (kyN r s c < x)) 0 30) 0 a
def isK (r : Row) (a x : Nat) : Prop := ∃ s c, s < a ∧ c < 30 ∧ fR r s c = true ∧ kyN r s c = x
theorem cf_addp (A : Nat → Bool) (k : Nat → Nat) (x : Nat) : ∀ m i, cf (fun c => A c && decide (k c < x + 1)) i m = cf (fun c => A c && decide (k c < x)) i m + cf (fun c => A c && decide (k c = x)) i m
  | 0, _ => rfl
  | m + 1, i => by
    have ih := cf_addp A k x m (i + 1)
    show (if (A i && decide (k i < x + 1)) = true then 1 else 0) + cf _ (i + 1) m = (if (A i && decide (k i < x)) = true then 1 else 0) + cf _ (i + 1) m + ((if (A i && decide (k i = x)) = true then 1 else 0) + cf _ (i + 1) m)
    rw [ih]
    cases A i with
    | false => simp
    | true =>
      simp only [Bool.true_and, decide_eq_true_eq]
      by_cases h1 : k i < x
      · rw [if_pos (by omega), if_pos h1, if_neg (by omega)]; omega
      · by_cases h2 : k i = x
        · rw [if_pos (by omega), if_neg h1, if_pos h2]; omega
        · rw [if_neg (by omega), if_neg h1, if_neg h2]; omega
theorem sf_add (f g : Nat → Nat) : ∀ m i, sf (fun s => f s + g s) i m = sf f i m + sf g i m
  | 0, _ => rfl
  | m + 1, i => by
    have ih := sf_add f g m (i + 1)
    show f i + g i + sf _ (i + 1) m = f i + sf f (i + 1) m + (g i + sf g (i + 1) m)
    rw [ih]
    omega
theorem sf_zero {f : Nat → Nat} : ∀ m i, (∀ j, i ≤ j → j < i + m → f j = 0) → sf f i m = 0
  | 0, _, _ => rfl
  | m + 1, i, h => by
    show f i + sf f (i + 1) m = 0
    rw [h i (Nat.le_refl i) (by omega), sf_zero m (i + 1) (fun j h1 h2 => h j (by omega) (by omega))]
theorem sf_one {f : Nat → Nat} {s : Nat} : ∀ m i, i ≤ s → s < i + m → (∀ j, j ≠ s → f j = 0) → sf f i m = f s
  | 0, i, h1, h2, _ => by omega
  | m + 1, i, h1, h2, h => by
    show f i + sf f (i + 1) m = f s
    by_cases e : i = s
    · subst e
      rw [sf_zero m (i + 1) (fun j g1 g2 => h j (by omega))]
      rfl
    · rw [h i e, sf_one m (i + 1) (by omega) (by omega) h, Nat.zero_add]
theorem cf_one {p : Nat → Bool} {c : Nat} : ∀ m i, i ≤ c → c < i + m → p c = true → (∀ j, j ≠ c → p j = false) → cf p i m = 1
  | 0, i, h1, h2, _, _ => by omega
  | m + 1, i, h1, h2, h3, h => by
    show (if p i = true then 1 else 0) + cf p (i + 1) m = 1
    by_cases e : i = c
    · subst e
      rw [if_pos h3, cf_zero (p := p) m (i + 1) (fun j g1 g2 => h j (by omega))]
    · rw [h i e, cf_one m (i + 1) (by omega) (by omega) h3 h]
      rfl
theorem ky_inj {r : Row} {s c s' c' : Nat} (hc : c < 30) (hc' : c' < 30) (hs : s < 4) (hs' : s' < 4) (h : kyN r s c = kyN r s' c') : s = s' ∧ c = c' := by
  unfold kyN at h
  omega
theorem Cc_split (r : Row) (a x : Nat) : Cc r a (x + 1) = Cc r a x + sf (fun s => cf (fun c => fR r s c && decide (kyN r s c = x)) 0 30) 0 a := by
  unfold Cc
  rw [← sf_add]
  exact sf_congr a 0 (fun j _ _ => cf_addp (fR r j) (kyN r j) x 30 0)
theorem Cc_no {r : Row} {a x : Nat} (h : ¬ isK r a x) : Cc r a (x + 1) = Cc r a x := by
  rw [Cc_split, sf_zero a 0 (fun s _ hs => cf_zero 30 0 (fun c _ hc => by
    cases hf : fR r s c with
    | false => rfl
    | true =>
      by_cases e : kyN r s c = x
      · exact absurd ⟨s, c, by omega, by omega, hf, e⟩ h
      · rw [decide_eq_false e]; rfl))]
  rfl
theorem Cc_yes {r : Row} {a x : Nat} (ha : a ≤ 4) (h : isK r a x) : Cc r a (x + 1) = Cc r a x + 1 := by
  obtain ⟨s, c, hs, hc, hf, hx⟩ := h
  have h1 : sf (fun s => cf (fun c => fR r s c && (decide (kyN r s c = x) && decide (c < 30))) 0 30 * (if s < 4 then 1 else 0)) 0 a = 1 := by
    rw [sf_one (s := s) a 0 (Nat.zero_le s) (by omega) (fun j hj => by
      by_cases hj4 : j < 4
      · rw [cf_zero 30 0 (fun c' _ hc' => by
          by_cases e : kyN r j c' = x
          · rw [← hx] at e
            exact absurd (ky_inj (by omega) hc hj4 (by omega) e).1 hj
          · rw [decide_eq_false e, Bool.false_and, Bool.and_false])]
        exact Nat.zero_mul _
      · rw [if_neg hj4]
        exact Nat.mul_zero _)]
    rw [if_pos (by omega), cf_one (c := c) 30 0 (Nat.zero_le c) (by omega) (by rw [hf, decide_eq_true hx, decide_eq_true hc]; rfl) (fun c' hc' => by
      by_cases h30 : c' < 30
      · by_cases e : kyN r s c' = x
        · rw [← hx] at e
          exact absurd (ky_inj h30 hc (by omega) (by omega) e).2 hc'
        · rw [decide_eq_false e, Bool.false_and, Bool.and_false]
      · rw [decide_eq_false h30, Bool.and_false, Bool.and_false])]
  have h2 : sf (fun s => cf (fun c => fR r s c && decide (kyN r s c = x)) 0 30) 0 a = sf (fun s => cf (fun c => fR r s c && (decide (kyN r s c = x) && decide (c < 30))) 0 30 * (if s < 4 then 1 else 0)) 0 a :=
    sf_congr a 0 (fun j _ hj => by
      show cf (fun c => fR r j c && decide (kyN r j c = x)) 0 30 = cf (fun c => fR r j c && (decide (kyN r j c = x) && decide (c < 30))) 0 30 * (if j < 4 then 1 else 0)
      rw [if_pos (by omega), Nat.mul_one]
      exact cf_congr 30 0 (fun c' _ hc' => by
        rw [decide_eq_true (by omega : c' < 30), Bool.and_true]))
  rw [Cc_split, h2, h1]
theorem Cc_mono {r : Row} {a : Nat} (ha : a ≤ 4) (x : Nat) : ∀ n, Cc r a x ≤ Cc r a (x + n)
  | 0 => Nat.le_refl _
  | n + 1 => by
    have ih := Cc_mono (r := r) ha x n
    by_cases h : isK r a (x + n)
    · have := Cc_yes ha h
      rw [show x + (n + 1) = x + n + 1 by omega]
      omega
    · have := Cc_no h
      rw [show x + (n + 1) = x + n + 1 by omega]
      omega
theorem Cc_flat {r : Row} {a : Nat} (x : Nat) : ∀ n, (∀ y, x ≤ y → y < x + n → ¬ isK r a y) → Cc r a (x + n) = Cc r a x
  | 0, _ => rfl
  | n + 1, h => by
    rw [show x + (n + 1) = x + n + 1 by omega, Cc_no (h (x + n) (by omega) (by omega)), Cc_flat x n (fun y h1 h2 => h y h1 (by omega))]
theorem Cc_uniq {r : Row} {a x y : Nat} (ha : a ≤ 4) (hx : isK r a x) (hy : isK r a y) (h : Cc r a x = Cc r a y) : x = y := by
  have key : ∀ u v, isK r a u → Cc r a u = Cc r a v → u < v → False := fun u v hu huv hlt => by
    have h1 := Cc_yes ha hu
    have h2 := Cc_mono (r := r) ha (u + 1) (v - (u + 1))
    rw [show u + 1 + (v - (u + 1)) = v by omega] at h2
    omega
  by_cases h1 : x < y
  · exact absurd (key x y hx h h1) id
  · by_cases h2 : y < x
    · exact absurd (key y x hy h.symm h2) id
    · omega
theorem cell_N {r : Row} {s c : Nat} (h : Inv 9999 r) (hs : s < 4) (hc : c < 30) : ∃ q, q ≤ 9999 ∧ r (35 * s + (5 + c)) = nI q ∧ (r (35 * s + (5 + c))).toNatClampNeg = q ∧ (fR r s c = true ↔ 0 < q) := by
  obtain ⟨q, h1, _, h2⟩ := inv_at h (bq_c hs hc)
  have h9 : q ≤ 9999 := h2
  refine ⟨q, h9, h1, by rw [h1, cl_nI (by omega)], ?_⟩
  unfold fR
  rw [h1, decide_eq_true_eq, show (0 : Int32) = nI 0 from rfl, lt_nI (by omega) (by omega)]
theorem isK_lt {r : Row} {a x : Nat} (h : Inv 9999 r) (ha : a ≤ 4) (hx : isK r a x) : x < 10000000 := by
  obtain ⟨s, c, hs, hc, _, rfl⟩ := hx
  obtain ⟨q, h1, _, h3, _⟩ := cell_N h (by omega : s < 4) hc
  unfold kyN
  rw [h3]
  omega
theorem Cc_all {r : Row} {a : Nat} (h : Inv 9999 r) (ha : a ≤ 4) : Cc r a 10000000 = sf (fun s => cf (fR r s) 0 30) 0 a := by
  unfold Cc
  exact sf_congr a 0 (fun s _ hs => cf_congr 30 0 (fun c _ hc => by
    cases hf : fR r s c with
    | false => rfl
    | true =>
      rw [decide_eq_true (isK_lt h ha ⟨s, c, by omega, by omega, hf, rfl⟩)]
      rfl))
theorem Cc_0 {r : Row} {a : Nat} : Cc r a 0 = 0 :=
  sf_zero a 0 (fun s _ _ => cf_zero 30 0 (fun c _ _ => by rw [decide_eq_false (Nat.not_lt_zero _), Bool.and_false]))
/-! the class: the least key from lo on -/
def okv (r : Row) (a lo v : Nat) (s c : Nat) : Prop := v ≤ 10000000 ∧ (v = 10000000 ∨ (lo ≤ v ∧ isK r a v)) ∧ ∀ s' c', (s' < s ∨ (s' = s ∧ c' < c)) → s' < 4 → c' < 30 → fR r s' c' = true → lo ≤ kyN r s' c' → v ≤ kyN r s' c'
theorem nak_step {r : Row} {a lo v s c n : Nat} {a1 : Int32} (h : Inv 9999 r) (hlo : ∀ x : Nat, x < 100000000 → (nI x ≤ a1 ↔ x < lo)) (hs : s < a) (ha : a ≤ 4) (hc : c < 30) (hv : okv r a lo v s c) : ∃ v', okv r a lo v' s (c + 1) ∧ fl_X0_nextAgeKey (enc r) a1 (n + 1) 2 (nI v) (nI s) (nI c) = fl_X0_nextAgeKey (enc r) a1 n 2 (nI v') (nI s) (nI (c + 1)) := by
  have os : ¬ oob (nI s) 4 := by rw [oob_nI (by omega)]; omega
  have oc : ¬ oob (nI c) 30 := by rw [oob_nI (by omega)]; omega
  have cs : (nI s).toNatClampNeg = s := cl_nI (by omega)
  have cc : (nI c).toNatClampNeg = c := cl_nI (by omega)
  have e1 : nI c + 1 = nI (c + 1) := add_nI c 1
  obtain ⟨q, q1, q2, q3, q4⟩ := cell_N h (by omega : s < 4) hc
  show ∃ v', _ ∧ fb_X0_nextAgeKey_2 (enc r) a1 (fl_X0_nextAgeKey (enc r) a1 n) (nI v) (nI s) (nI c) = _
  unfold fb_X0_nextAgeKey_2
  rw [if_neg (fun x => by rw [show (30 : Int32) = nI 30 from rfl, le_nI (by omega) (by omega)] at x; omega), if_neg os, if_neg oc, if_neg os]
  simp only [cs, cc, E2_isFrozen (by omega : s < 4) hc, Option.bind_some]
  have old : ∀ v', v' ≤ v → okv r a lo v s c → (fR r s c = true → lo ≤ kyN r s c → v' ≤ kyN r s c) → ∀ s' c', (s' < s ∨ (s' = s ∧ c' < c + 1)) → s' < 4 → c' < 30 → fR r s' c' = true → lo ≤ kyN r s' c' → v' ≤ kyN r s' c' := fun v' hv' ho hn s' c' h1 h2 h3 h4 h5 => by
    by_cases e : s' = s ∧ c' = c
    · obtain ⟨rfl, rfl⟩ := e
      exact hn h4 h5
    · exact Nat.le_trans hv' (ho.2.2 s' c' (by omega) h2 h3 h4 h5)
  cases hf : fR r s c with
  | false =>
    rw [b2i_f, if_pos rfl, e1]
    exact ⟨v, ⟨hv.1, hv.2.1, old v (Nat.le_refl v) hv (fun x => by rw [hf] at x; cases x)⟩, rfl⟩
  | true =>
    have hk : kyN r s c = 1000 * q + (100 * s + c) := by unfold kyN; rw [q3]
    have hky : (1000 : Int32) * enc r (35 * s + (5 + c)) + 100 * nI s + nI c = nI (kyN r s c) := by
      rw [enc_fR (by omega) hc hf, q2, show (1000 : Int32) = nI 1000 from rfl, show (100 : Int32) = nI 100 from rfl, mul_nI, mul_nI, add_nI, add_nI, hk, Nat.add_assoc]
    rw [b2i_t, if_neg i10]
    simp only [hky, e1]
    have hv1 := hv.1
    by_cases g1 : kyN r s c < lo
    · rw [if_pos ((hlo _ (by omega)).mpr g1)]
      exact ⟨v, ⟨hv.1, hv.2.1, old v (Nat.le_refl v) hv (fun _ x => by omega)⟩, rfl⟩
    · rw [if_neg (fun x => g1 ((hlo _ (by omega)).mp x))]
      by_cases g2 : v ≤ kyN r s c
      · rw [if_pos ((le_nI (by omega) (by omega)).mpr g2)]
        exact ⟨v, ⟨hv.1, hv.2.1, old v (Nat.le_refl v) hv (fun _ _ => g2)⟩, rfl⟩
      · rw [if_neg (fun x => g2 ((le_nI (by omega) (by omega)).mp x))]
        exact ⟨kyN r s c, ⟨by omega, Or.inr ⟨by omega, s, c, hs, hc, hf, rfl⟩, old _ (by omega) hv (fun _ _ => Nat.le_refl _)⟩, rfl⟩
theorem nak_row {r : Row} {a lo s : Nat} {a1 : Int32} (h : Inv 9999 r) (hlo : ∀ x : Nat, x < 100000000 → (nI x ≤ a1 ↔ x < lo)) (hs : s < a) (ha : a ≤ 4) : ∀ m n c v, c + m = 30 → okv r a lo v s c → ∃ v', okv r a lo v' s 30 ∧ fl_X0_nextAgeKey (enc r) a1 (n + m) 2 (nI v) (nI s) (nI c) = fl_X0_nextAgeKey (enc r) a1 n 2 (nI v') (nI s) (nI 30) := by
  intro m
  induction m with
  | zero =>
    intro n c v hc hv
    have e : c = 30 := by omega
    subst e
    exact ⟨v, hv, rfl⟩
  | succ m ih =>
    intro n c v hc hv
    obtain ⟨v1, h1, h2⟩ := nak_step (n := n + m) h hlo hs ha (by omega) hv
    obtain ⟨v', h3, h4⟩ := ih n (c + 1) v1 (by omega) h1
    exact ⟨v', h3, by rw [show n + (m + 1) = n + m + 1 by omega, h2, h4]⟩
theorem nak_all {r : Row} {a lo : Nat} {a1 : Int32} (h : Inv 9999 r) (h6 : r 196 = nI a) (hlo : ∀ x : Nat, x < 100000000 → (nI x ≤ a1 ↔ x < lo)) (ha : a ≤ 4) : ∀ m n s v, s + m = a → okv r a lo v s 0 → ∃ v', okv r a lo v' a 0 ∧ fl_X0_nextAgeKey (enc r) a1 (n + 32 * m + 1) 1 (nI v) (nI s) 0 = some (nI v') := by
  intro m
  induction m with
  | zero =>
    intro n s v hs hv
    have e : s = a := by omega
    subst e
    refine ⟨v, hv, ?_⟩
    show fb_X0_nextAgeKey_1 (enc r) a1 (fl_X0_nextAgeKey (enc r) a1 (n + 32 * 0)) (nI v) (nI s) 0 = _
    unfold fb_X0_nextAgeKey_1
    rw [enc_hi (by omega), h6, if_pos ((le_nI (by omega) (by omega)).mpr (Nat.le_refl s))]
  | succ m ih =>
    intro n s v hs hv
    have hv0 : okv r a lo v s 0 := hv
    obtain ⟨v1, h1, h2⟩ := nak_row h hlo (by omega : s < a) ha 30 (n + 32 * m + 1 + 1) 0 v (by omega) hv0
    have h1' : okv r a lo v1 (s + 1) 0 := ⟨h1.1, h1.2.1, fun s' c' g1 g2 g3 g4 g5 => h1.2.2 s' c' (by omega) g2 g3 g4 g5⟩
    obtain ⟨v', h3, h4⟩ := ih n (s + 1) v1 (by omega) h1'
    refine ⟨v', h3, ?_⟩
    have e1 : nI s + 1 = nI (s + 1) := add_nI s 1
    rw [show n + 32 * (m + 1) + 1 = n + 32 * m + 1 + 1 + 30 + 1 by omega]
    show fb_X0_nextAgeKey_1 (enc r) a1 (fl_X0_nextAgeKey (enc r) a1 (n + 32 * m + 1 + 1 + 30)) (nI v) (nI s) 0 = _
    unfold fb_X0_nextAgeKey_1
    rw [enc_hi (by omega), h6, if_neg (fun x => by rw [le_nI (by omega) (by omega)] at x; omega)]
    refine h2.trans ?_
    show fb_X0_nextAgeKey_2 (enc r) a1 (fl_X0_nextAgeKey (enc r) a1 (n + 32 * m + 1)) (nI v1) (nI s) (nI 30) = _
    unfold fb_X0_nextAgeKey_2
    rw [if_pos (by decide), e1]
    exact h4
theorem X0_nak {r : Row} {a lo : Nat} {a1 : Int32} (h : Inv 9999 r) (h6 : r 196 = nI a) (hlo : ∀ x : Nat, x < 100000000 → (nI x ≤ a1 ↔ x < lo)) (ha : a ≤ 4) : ∃ v, okv r a lo v a 0 ∧ f_X0_nextAgeKey (enc r) a1 = some (nI v) := by
  obtain ⟨v, h1, h2⟩ := nak_all h h6 hlo ha a (FU - 32 * a - 1) 0 10000000 (by omega) ⟨Nat.le_refl _, Or.inl rfl, fun s' c' g1 g2 g3 g4 g5 => by omega⟩
  have e : FU - 32 * a - 1 + 32 * a + 1 = FU := by
    have : FU = 1000000000 := rfl
    omega
  rw [e] at h2
  exact ⟨v, h1, h2⟩
theorem gapK {r : Row} {a lo v : Nat} (ha : a ≤ 4) (hv : okv r a lo v a 0) : ∀ y, lo ≤ y → y < v → ¬ isK r a y := fun y h1 h2 ⟨s, c, hs, hc, hf, hy⟩ => by
  have := hv.2.2 s c (Or.inl hs) (by omega) hc hf (by omega)
  omega
def old1 (r : Row) (a i : Nat) (key : Int32) : Prop := ∃ lo, Cc r a lo = i ∧ lo ≤ 10000000 ∧ (∀ x : Nat, x < 100000000 → (nI x ≤ key ↔ x < lo)) ∧ (i = 0 ∨ ∃ x, key = nI x ∧ isK r a x ∧ Cc r a x + 1 = i)
theorem X4_old_l {μ ν : Mem} {a rank : Nat} (hn : μ 0 = enc (ν 1)) (h : Inv 9999 (ν 1)) (h6 : ν 1 196 = nI a) (ha : a ≤ 4) (hr : rank < Cc (ν 1) a 10000000) (hr2 : rank < 1000) : ∀ m n i key, i + m = rank + 1 → m < n → old1 (ν 1) a i key → ∃ x, isK (ν 1) a x ∧ Cc (ν 1) a x = rank ∧ fl_X4_oldest μ (nI rank) n key (nI i) = some (0, nI x - nI x / 1000 * 1000) := by
  intro m
  induction m with
  | zero =>
    intro n i key hi hn2 hk
    obtain ⟨n, rfl⟩ : ∃ q, n = q + 1 := ⟨n - 1, by omega⟩
    obtain ⟨lo, _, _, _, h2⟩ := hk
    rcases h2 with h2 | ⟨x, rfl, h3, h4⟩
    · omega
    · refine ⟨x, h3, by omega, ?_⟩
      show fb_X4_oldest_1 μ (nI rank) (fl_X4_oldest μ (nI rank) n) (nI x) (nI i) = _
      unfold fb_X4_oldest_1
      rw [if_pos ((lt_nI (by omega) (by omega)).mpr (by omega))]
  | succ m ih =>
    intro n i key hi hn2 hk
    obtain ⟨n, rfl⟩ : ∃ q, n = q + 1 := ⟨n - 1, by omega⟩
    obtain ⟨lo, h1, hlo, h2, h3⟩ := hk
    obtain ⟨v, g1, g2⟩ := X0_nak h h6 h2 ha
    have hv : lo ≤ v ∧ isK (ν 1) a v := by
      rcases g1.2.1 with e | e
      · exfalso
        have hf := Cc_flat (r := ν 1) (a := a) lo (10000000 - lo) (fun y y1 y2 => gapK ha g1 y y1 (by omega))
        rw [show lo + (10000000 - lo) = 10000000 by omega] at hf
        omega
      · exact e
    have hC : Cc (ν 1) a v = i := by
      have hf := Cc_flat (r := ν 1) (a := a) lo (v - lo) (fun y y1 y2 => gapK ha g1 y y1 (by omega))
      rw [show lo + (v - lo) = v by omega] at hf
      omega
    have hvl := isK_lt h ha hv.2
    obtain ⟨x, k1, k2, k3⟩ := ih n (i + 1) (nI v) (by omega) (by omega) ⟨v + 1, by rw [Cc_yes ha hv.2, hC], by omega, fun x hx => by rw [le_nI (by omega) (by omega)]; omega, Or.inr ⟨v, rfl, hv.2, by omega⟩⟩
    refine ⟨x, k1, k2, ?_⟩
    have e1 : nI i + 1 = nI (i + 1) := add_nI i 1
    show fb_X4_oldest_1 μ (nI rank) (fl_X4_oldest μ (nI rank) n) key (nI i) = _
    unfold fb_X4_oldest_1
    rw [if_neg (fun x => by rw [lt_nI (by omega) (by omega)] at x; omega), hn, g2, Option.bind_some, e1, k3]
/-! the reference: day by day -/
def tgt (r : Row) (a rank x : Nat) : Prop := isK r a x ∧ Cc r a x = rank
theorem old_row {ν : Mem} {a rank x d s : Nat} {a1 : Int32} (h : Inv 9999 (ν 1)) (ha : a ≤ 4) (hx : tgt (ν 1) a rank x) (hr2 : rank < 1000) (hs : s < a) (hd : 0 < d) (hd9 : d ≤ 10000) : ∀ m n c, c + m = 30 → 1000 * d + (100 * s + c) ≤ x → (fl_X5_oldest a1 (n + m + 1) 4 ν 0 (nI (rank - Cc (ν 1) a (1000 * d + (100 * s + c)))) (nI d) (nI s) (nI c) = some (nI (x % 1000), ν)) ∨ (1000 * d + 100 * (s + 1) ≤ x ∧ fl_X5_oldest a1 (n + m + 1) 4 ν 0 (nI (rank - Cc (ν 1) a (1000 * d + (100 * s + c)))) (nI d) (nI s) (nI c) = fl_X5_oldest a1 n 3 ν 0 (nI (rank - Cc (ν 1) a (1000 * d + 100 * (s + 1)))) (nI d) (nI (s + 1)) 0) := by
  intro m
  induction m with
  | zero =>
    intro n c hc hp
    have e : c = 30 := by omega
    subst e
    have hgap : ∀ y, 1000 * d + (100 * s + 30) ≤ y → y < 1000 * d + (100 * s + 30) + 70 → ¬ isK (ν 1) a y := fun y y1 y2 ⟨s', c', hs', hc', hf', hy⟩ => by
      unfold kyN at hy
      omega
    have hx2 : 1000 * d + 100 * (s + 1) ≤ x := by
      by_cases g : x < 1000 * d + (100 * s + 30) + 70
      · exact absurd hx.1 (hgap x hp g)
      · omega
    refine Or.inr ⟨hx2, ?_⟩
    have hf := Cc_flat (r := ν 1) (a := a) (1000 * d + (100 * s + 30)) 70 hgap
    rw [show 1000 * d + (100 * s + 30) + 70 = 1000 * d + 100 * (s + 1) by omega] at hf
    rw [← hf]
    have e1 : nI s + 1 = nI (s + 1) := add_nI s 1
    show fb_X5_oldest_4 a1 (fl_X5_oldest a1 (n + 0)) ν 0 _ (nI d) (nI s) (nI 30) = _
    unfold fb_X5_oldest_4
    rw [if_pos (by decide), e1]
    rfl
  | succ m ih =>
    intro n c hc hp
    have hmo := Cc_mono (r := ν 1) ha (1000 * d + (100 * s + c)) (x - (1000 * d + (100 * s + c)))
    rw [show 1000 * d + (100 * s + c) + (x - (1000 * d + (100 * s + c))) = x by omega, hx.2] at hmo
    obtain ⟨q, q1, q2, q3, q4⟩ := cell_N h (by omega : s < 4) (by omega : c < 30)
    have o2 : ¬ oob (nI (35 * s + (5 + c))) 205 := by rw [oob_nI (by omega)]; omega
    have c2 : (nI (35 * s + (5 + c))).toNatClampNeg = 35 * s + (5 + c) := cl_nI (by omega)
    have e1 : nI c + 1 = nI (c + 1) := add_nI c 1
    have hstep : fl_X5_oldest a1 (n + (m + 1) + 1) 4 ν 0 (nI (rank - Cc (ν 1) a (1000 * d + (100 * s + c)))) (nI d) (nI s) (nI c) = if q = d then (if rank - Cc (ν 1) a (1000 * d + (100 * s + c)) = 0 then some (nI (100 * s + c), ν) else fl_X5_oldest a1 (n + m + 1) 4 ν 0 (nI (rank - Cc (ν 1) a (1000 * d + (100 * s + c))) + -1) (nI d) (nI s) (nI (c + 1))) else fl_X5_oldest a1 (n + m + 1) 4 ν 0 (nI (rank - Cc (ν 1) a (1000 * d + (100 * s + c)))) (nI d) (nI s) (nI (c + 1)) := by
      show fb_X5_oldest_4 a1 (fl_X5_oldest a1 (n + m + 1)) ν 0 _ (nI d) (nI s) (nI c) = _
      unfold fb_X5_oldest_4
      rw [if_neg (fun x => by rw [show (30 : Int32) = nI 30 from rfl, le_nI (by omega) (by omega)] at x; omega), X5_cell, Option.bind_some, if_neg o2]
      simp only [c2, q2, e1]
      have e100 : (100 : Int32) * nI s + nI c = nI (100 * s + c) := by rw [show (100 : Int32) = nI 100 from rfl, mul_nI, add_nI]
      rw [e100]
      by_cases hqd : q = d
      · rw [if_pos (by rw [hqd]), if_pos hqd]
        by_cases h0 : rank - Cc (ν 1) a (1000 * d + (100 * s + c)) = 0
        · rw [if_pos (by rw [h0]; rfl), if_pos h0]
        · rw [if_neg (nI_ne0 (by omega) (by omega)), if_neg h0]
      · rw [if_neg (fun x => hqd ((eq_nI (by omega) (by omega)).mp x)), if_neg hqd]
    by_cases hqd : q = d
    · have hK : isK (ν 1) a (1000 * d + (100 * s + c)) := ⟨s, c, hs, by omega, q4.mpr (by omega), by unfold kyN; rw [q3, hqd]⟩
      rw [hstep, if_pos hqd]
      by_cases h0 : rank - Cc (ν 1) a (1000 * d + (100 * s + c)) = 0
      · have e : 1000 * d + (100 * s + c) = x := Cc_uniq ha hK hx.1 (by rw [hx.2]; omega)
        rw [if_pos h0]
        refine Or.inl ?_
        rw [show x % 1000 = 100 * s + c by omega]
      · rw [if_neg h0]
        have hne : 1000 * d + (100 * s + c) ≠ x := fun e => by
          rw [e, hx.2] at h0
          omega
        have hy := Cc_yes ha hK
        have ih' := ih n (c + 1) (by omega) (by omega)
        obtain ⟨w, hw⟩ : ∃ w, rank - Cc (ν 1) a (1000 * d + (100 * s + c)) = w + 1 := ⟨rank - Cc (ν 1) a (1000 * d + (100 * s + c)) - 1, by omega⟩
        rw [hw, pk_m1]
        rw [show 1000 * d + (100 * s + (c + 1)) = 1000 * d + (100 * s + c) + 1 by omega, hy, show rank - (Cc (ν 1) a (1000 * d + (100 * s + c)) + 1) = w by omega] at ih'
        exact ih'
    · have hK : ¬ isK (ν 1) a (1000 * d + (100 * s + c)) := fun ⟨s', c', hs', hc', hf', hy⟩ => by
        have hy2 := hy
        unfold kyN at hy2
        have es : s' = s := by omega
        have ec : c' = c := by omega
        subst es
        subst ec
        rw [q3] at hy2
        omega
      rw [hstep, if_neg hqd]
      have hne : 1000 * d + (100 * s + c) ≠ x := fun e => hK (e ▸ hx.1)
      have ih' := ih n (c + 1) (by omega) (by omega)
      rw [show 1000 * d + (100 * s + (c + 1)) = 1000 * d + (100 * s + c) + 1 by omega, Cc_no hK] at ih'
      exact ih'
theorem old_site {ν : Mem} {a rank x d : Nat} {a1 : Int32} (h : Inv 9999 (ν 1)) (h6 : ν 1 196 = nI a) (ha : a ≤ 4) (hx : tgt (ν 1) a rank x) (hr2 : rank < 1000) (hd : 0 < d) (hd9 : d ≤ 10000) : ∀ m n s, s + m = a → 1000 * d + 100 * s ≤ x → (fl_X5_oldest a1 (n + 32 * m + 1) 3 ν 0 (nI (rank - Cc (ν 1) a (1000 * d + 100 * s))) (nI d) (nI s) 0 = some (nI (x % 1000), ν)) ∨ (1000 * (d + 1) ≤ x ∧ fl_X5_oldest a1 (n + 32 * m + 1) 3 ν 0 (nI (rank - Cc (ν 1) a (1000 * d + 100 * s))) (nI d) (nI s) 0 = fl_X5_oldest a1 n 2 ν 0 (nI (rank - Cc (ν 1) a (1000 * (d + 1)))) (nI (d + 1)) 0 0) := by
  intro m
  induction m with
  | zero =>
    intro n s hs hp
    have e : s = a := by omega
    subst e
    have hgap : ∀ y, 1000 * d + 100 * s ≤ y → y < 1000 * d + 100 * s + (1000 - 100 * s) → ¬ isK (ν 1) s y := fun y y1 y2 ⟨s', c', hs', hc', hf', hy⟩ => by
      unfold kyN at hy
      omega
    have hx2 : 1000 * (d + 1) ≤ x := by
      by_cases g : x < 1000 * d + 100 * s + (1000 - 100 * s)
      · exact absurd hx.1 (hgap x hp g)
      · omega
    refine Or.inr ⟨hx2, ?_⟩
    have hf := Cc_flat (r := ν 1) (a := s) (1000 * d + 100 * s) (1000 - 100 * s) hgap
    rw [show 1000 * d + 100 * s + (1000 - 100 * s) = 1000 * (d + 1) by omega] at hf
    rw [← hf]
    have e1 : nI d + 1 = nI (d + 1) := add_nI d 1
    show fb_X5_oldest_3 a1 (fl_X5_oldest a1 (n + 32 * 0)) ν 0 _ (nI d) (nI s) 0 = _
    unfold fb_X5_oldest_3
    rw [show (196 : Int32).toNatClampNeg = 196 from rfl, h6, if_pos ((le_nI (by omega) (by omega)).mpr (Nat.le_refl s)), e1]
    rfl
  | succ m ih =>
    intro n s hs hp
    have hrow := old_row (a1 := a1) h ha hx hr2 (by omega : s < a) hd hd9 30 (n + 32 * m + 1) 0 (by omega) (by omega)
    rw [Nat.add_zero] at hrow
    have hst : fl_X5_oldest a1 (n + 32 * (m + 1) + 1) 3 ν 0 (nI (rank - Cc (ν 1) a (1000 * d + 100 * s))) (nI d) (nI s) 0 = fl_X5_oldest a1 (n + 32 * m + 1 + 30 + 1) 4 ν 0 (nI (rank - Cc (ν 1) a (1000 * d + 100 * s))) (nI d) (nI s) (nI 0) := by
      rw [show n + 32 * (m + 1) + 1 = n + 32 * m + 1 + 30 + 1 + 1 by omega]
      show fb_X5_oldest_3 a1 (fl_X5_oldest a1 (n + 32 * m + 1 + 30 + 1)) ν 0 _ (nI d) (nI s) 0 = _
      unfold fb_X5_oldest_3
      rw [show (196 : Int32).toNatClampNeg = 196 from rfl, h6, if_neg (fun x => by rw [le_nI (by omega) (by omega)] at x; omega)]
      rfl
    rw [hst]
    rcases hrow with g | ⟨g1, g2⟩
    · exact Or.inl g
    · rcases ih n (s + 1) (by omega) g1 with e | ⟨e1, e2⟩
      · exact Or.inl (g2.trans e)
      · exact Or.inr ⟨e1, g2.trans e2⟩
theorem old_day {ν : Mem} {a rank x D : Nat} {a1 : Int32} (h : Inv 9999 (ν 1)) (h6 : ν 1 196 = nI a) (h9 : ν 1 199 = nI D) (hD : D ≤ 9999) (ha : a ≤ 4) (hx : tgt (ν 1) a rank x) (hxD : x < 1000 * (D + 1)) (hr2 : rank < 1000) : ∀ m n d, d + m = D + 1 → 0 < d → 1000 * d ≤ x → fl_X5_oldest a1 (n + 130 * m + 1) 2 ν 0 (nI (rank - Cc (ν 1) a (1000 * d))) (nI d) 0 0 = some (nI (x % 1000), ν) := by
  intro m
  induction m with
  | zero =>
    intro n d hd h0 hp
    exact absurd hp (by rw [show d = D + 1 by omega]; omega)
  | succ m ih =>
    intro n d hd h0 hp
    have hs := old_site (a1 := a1) h h6 ha hx hr2 h0 (by omega) a (n + 130 * (m + 1) - 32 * a - 1) 0 (by omega) (by omega)
    rw [show n + 130 * (m + 1) - 32 * a - 1 + 32 * a + 1 = n + 130 * (m + 1) by omega, Nat.mul_zero, Nat.add_zero] at hs
    have hst : fl_X5_oldest a1 (n + 130 * (m + 1) + 1) 2 ν 0 (nI (rank - Cc (ν 1) a (1000 * d))) (nI d) 0 0 = fl_X5_oldest a1 (n + 130 * (m + 1)) 3 ν 0 (nI (rank - Cc (ν 1) a (1000 * d))) (nI d) (nI 0) 0 := by
      show fb_X5_oldest_2 a1 (fl_X5_oldest a1 (n + 130 * (m + 1))) ν 0 _ (nI d) 0 0 = _
      unfold fb_X5_oldest_2
      rw [show (199 : Int32).toNatClampNeg = 199 from rfl, h9, if_neg (fun x => by rw [lt_nI (by omega) (by omega)] at x; omega)]
      rfl
    rw [hst]
    rcases hs with g | ⟨g1, g2⟩
    · exact g
    · have := ih (n + 130 * (m + 1) - 32 * a - 1 - 130 * m - 1) (d + 1) (by omega) (by omega) g1
      rw [show n + 130 * (m + 1) - 32 * a - 1 - 130 * m - 1 + 130 * m + 1 = n + 130 * (m + 1) - 32 * a - 1 by omega] at this
      exact g2.trans this
theorem call_oldest {μ ν : Mem} (a1 : Int32) (h : Rel μ ν) : CallQ μ [3] (f_X4_oldest μ a1) (f_X5_oldest ν a1) := by
  obtain ⟨d, hg⟩ := h.1.2
  have hn : μ 0 = enc (ν 1) := h.1.1
  obtain ⟨a, h6, ha⟩ := inv_196 hg.1
  have hac := ac_le (ν 1)
  have hCa : Cc (ν 1) a 10000000 = ac (ν 1) := by
    rw [Cc_all hg.1 ha]
    unfold ac
    rw [sc_of h6 ha]
  have r1 : rf ν 0 1 = ν 1 := rf_o (i := 1) (by omega)
  rcases in_cases a1 (ac (ν 1)) (by omega) with ⟨rank, hr, rfl⟩ | hx
  · obtain ⟨x, hx1, hx2, hx3⟩ := X4_old_l hn hg.1 h6 ha (by rw [hCa]; exact hr) (by omega) (rank + 1) FU 0 (-1) (by omega) (fu_lt (by omega)) ⟨0, Cc_0, by omega, fun x hx => by
      constructor
      · intro g
        have := Int32.lt_of_lt_of_le (m1_lt (a := x) (by omega)) g
        exact absurd this (Int32.lt_irrefl)
      · intro g
        omega, Or.inl rfl⟩
    have hxl := isK_lt hg.1 ha hx1
    have ed : nI x - nI x / 1000 * 1000 = nI (x % 1000) := pk_rem (d := 1000) (by omega) (by omega) (by omega)
    have hxD : x < 1000 * (d + 1) ∧ 1000 ≤ x := by
      obtain ⟨s, c, hs, hc, hf, rfl⟩ := hx1
      obtain ⟨q, q1, q2, q3, q4⟩ := cell_N hg.1 (by omega : s < 4) hc
      have := hg.1.2.1 _ (isC_c (by omega : s < 4) hc)
      have hd9 := hg.2.2.1
      rw [q2, hg.2.1, le_nI (by omega) (by omega)] at this
      have := q4.mp hf
      unfold kyN
      rw [q3]
      omega
    refine q_ok (v := nI (x % 1000)) h ?_ ?_
    · unfold f_X4_oldest
      rw [if_neg (nI_pos (by omega)), hn, X0_frozenCells hg.1, Option.bind_some, if_pos ((lt_nI (by omega) (by omega)).mpr hr), ← ed]
      exact hx3
    · unfold f_X5_oldest
      have hd9 := hg.2.2.1
      have hday := old_day (ν := rf ν 0) (a1 := nI rank) (by rw [r1]; exact hg.1) (by rw [r1]; exact h6) (by rw [r1]; exact hg.2.1) hg.2.2.1 ha (rank := rank) (x := x) (by rw [r1]; exact ⟨hx1, hx2⟩) hxD.1 (by omega) d (999999999 - 130 * d - 1) 1 (by omega) (by omega) (by omega)
      rw [show 999999999 - 130 * d - 1 + 130 * d + 1 = 999999999 by omega, r1] at hday
      have hC1 : Cc (ν 1) a (1000 * 1) = 0 := by
        have hf := Cc_flat (r := ν 1) (a := a) 0 1000 (fun y y1 y2 ⟨s, c, hs, hc, hf, hy⟩ => by
          obtain ⟨q, q1, q2, q3, q4⟩ := cell_N hg.1 (by omega : s < 4) hc
          have := q4.mp hf
          unfold kyN at hy
          rw [q3] at hy
          omega)
        rw [Nat.zero_add, Cc_0] at hf
        exact hf
      rw [hC1, Nat.sub_zero] at hday
      rw [X5_allCells hg.1, Option.bind_some, inM_yes hr (by omega), Option.bind_some, if_neg i10]
      show fb_X5_oldest_1 (nI rank) (fl_X5_oldest (nI rank) 999999999) ν 0 0 0 0 0 = _
      rw [← hday]
      exact ref_ok _
  · refine q_no (k := 3) (i := 0) (v := 0) h rfl ?_ ?_
    · unfold f_X4_oldest
      by_cases h1 : a1 < 0
      · rw [if_pos h1]
      · rw [if_neg h1, hn, X0_frozenCells hg.1, Option.bind_some, if_neg (Int32.not_lt.mpr (hx.resolve_left h1))]
    · unfold f_X5_oldest
      rw [X5_allCells hg.1, Option.bind_some, inM_no (by omega) hx, Option.bind_some, if_pos rfl]
      show fb_X5_oldest_1 a1 (fl_X5_oldest a1 999999999) ν 1 0 0 0 0 = _
      exact ref_no (t := 1) (by decide) _
