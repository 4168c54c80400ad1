/-! one day at one site -/
def dg (t : Int32) : Prop := (∃ u, u ≤ 30 ∧ t = nI u) ∨ ∃ u, 1 ≤ u ∧ u ≤ 30 ∧ t = -nI u
def sn1 (r : Row) (z : Nat) (w : Int32) : Int32 := mn 99 (r (35 * z) + w + mn w (r (35 * z + 1)))
def cd1 (r : Row) (z : Nat) (t w : Int32) : Int32 := 10 * (-t) / (10 + sn1 r z w)
def ml1 (r : Row) (z : Nat) (t w : Int32) : Int32 := mn (t * r 203) (sn1 r z w)
def S_wt (r : Row) (z : Nat) (t w : Int32) : Row :=
  if t ≤ 0 then (if 0 ≤ t then upd r (35 * z) (sn1 r z w) else upd (upd (upd (upd r (35 * z) (sn1 r z w)) (35 * z + 2) (r (35 * z + 2) + cd1 r z t w)) (35 * z + 4) (r (35 * z + 4) + cd1 r z t w)) (35 * z + 3) 0)
  else if sn1 r z w - ml1 r z t w = 0 then upd (upd (upd r (35 * z) (sn1 r z w - ml1 r z t w)) (35 * z + 3) (r (35 * z + 3) + (t - ml1 r z t w / r 203))) (35 * z + 2) 0
  else upd (upd r (35 * z) (sn1 r z w - ml1 r z t w)) (35 * z + 2) 0
theorem neg_nI_lt {u : Nat} (h1 : 1 ≤ u) (h2 : u < 2147483648) : -nI u < 0 := by
  have h : -nI u = nI 0 - nI u := (Int32.zero_sub _).symm
  rw [lt0_iff, h]
  have e : (nI 0 - nI u).toInt = (0 : Int) - u := by
    rw [Int32.toInt_sub, nI_toInt (by omega), nI_toInt h2]
    rw [Int.bmod_eq_of_le (by omega) (by omega)]
    rfl
  rw [e]
  omega
theorem mn_nI {a b : Nat} (ha : a < 2147483648) (hb : b < 2147483648) : mn (nI a) (nI b) = nI (min a b) := by
  unfold mn
  by_cases h : b ≤ a
  · rw [if_pos ((le_nI hb ha).mpr h), Nat.min_eq_right h]
  · rw [if_neg (fun x => h ((le_nI hb ha).mp x)), Nat.min_eq_left (by omega)]
/-- what the weather asks of a site -/
def sw (r : Row) (z : Nat) : Prop := (∃ a, a ≤ 99 ∧ r (35 * z) = nI a) ∧ (∃ a, a ≤ 20 ∧ r (35 * z + 1) = nI a)
def rt (r : Row) : Prop := ∃ f, 1 ≤ f ∧ f ≤ 9 ∧ r 203 = nI f
theorem sn1_nI {r : Row} {z w' : Nat} (h : sw r z) (hw : w' ≤ 30) : ∃ a, a ≤ 99 ∧ sn1 r z (nI w') = nI a := by
  obtain ⟨⟨a, h1, h2⟩, ⟨b, h3, h4⟩⟩ := h
  unfold sn1
  rw [h2, h4, mn_nI (by omega) (by omega), add_nI, add_nI, show (99 : Int32) = nI 99 from rfl, mn_nI (by omega) (by omega)]
  exact ⟨_, Nat.min_le_left _ _, rfl⟩
theorem dg_cases {t : Int32} (h : dg t) : (t = 0) ∨ (∃ u, 1 ≤ u ∧ u ≤ 30 ∧ t = nI u) ∨ ∃ u, 1 ≤ u ∧ u ≤ 30 ∧ t = -nI u := by
  rcases h with ⟨u, h1, h2⟩ | h
  · by_cases h0 : u = 0
    · subst h0
      exact Or.inl h2
    · exact Or.inr (Or.inl ⟨u, by omega, h1, h2⟩)
  · exact Or.inr (Or.inr h)
theorem X2_takeSnow {r : Row} {z : Nat} {w : Int32} : f_X2_takeSnow (enc r) z w = some (enc (upd r (35 * z) (sn1 r z w))) := by
  unfold f_X2_takeSnow sn1
  have e1 : (if r (35 * z + 1) < w then r (35 * z + 1) else w) = mn w (r (35 * z + 1)) := mn_lt _ _
  have e2 : ∀ x : Int32, (if x < 99 then x else 99) = mn 99 x := fun x => mn_lt 99 x
  rw [Nat.add_zero, enc_l0, enc_lo (by omega), e1, e2, enc_up0]
theorem X0_weather {r : Row} {z w' : Nat} {t : Int32} (hz : z < 4) (hs : sw r z) (hr : rt r) (ht : dg t) (hw : w' ≤ 30) : (f_X2_takeSnow (enc r) z (nI w')).bind (fun r2 => f_X2_takeTemperature r2 z t (r2 203)) = some (enc (S_wt r z t (nI w'))) := by
  obtain ⟨a, ha, hsn⟩ := sn1_nI hs hw
  obtain ⟨f, hf1, hf9, hf⟩ := hr
  rw [X2_takeSnow, Option.bind_some]
  unfold f_X2_takeTemperature S_wt
  rw [Nat.add_zero]
  simp (disch := omega) only [enc_hi, enc_l0, enc_lo, enc_up0, enc_upl, upd_at, upd_off]
  rcases dg_cases ht with h0 | ⟨u, hu1, hu2, h⟩ | ⟨u, hu1, hu2, h⟩
  · subst h0
    rw [if_pos (by decide), if_pos (by decide), if_pos (by decide), if_pos (by decide)]
  · subst h
    rw [if_neg (nI_nle (by omega) (by omega)), if_neg (nI_nle (by omega) (by omega))]
    rw [mn_lt2]
    show _ = some (enc (if sn1 r z (nI w') - mn (nI u * r 203) (sn1 r z (nI w')) = 0 then upd (upd (upd r (35 * z) (sn1 r z (nI w') - mn (nI u * r 203) (sn1 r z (nI w')))) (35 * z + 3) (r (35 * z + 3) + (nI u - mn (nI u * r 203) (sn1 r z (nI w')) / r 203))) (35 * z + 2) 0 else upd (upd r (35 * z) (sn1 r z (nI w') - mn (nI u * r 203) (sn1 r z (nI w')))) (35 * z + 2) 0))
    by_cases hc : sn1 r z (nI w') - mn (nI u * r 203) (sn1 r z (nI w')) = 0
    · rw [if_pos hc, if_pos hc, if_neg (by rw [hf]; exact nI_nle (by omega) (by omega)), if_neg (by rw [hf]; exact nI_ne0 (by omega) (by omega)), upd_two]
    · rw [if_neg hc, if_neg hc, upd_two]
  · subst h
    have hneg := neg_nI_lt hu1 (by omega : u < 2147483648)
    rw [if_pos (Int32.le_of_lt hneg), if_pos (Int32.le_of_lt hneg), if_neg (Int32.not_le.mpr hneg), if_neg (Int32.not_le.mpr hneg)]
    rw [if_neg (by rw [hsn, show (10 : Int32) = nI 10 from rfl, add_nI]; exact nI_nle (by omega) (by omega)), if_neg (by rw [hsn, show (10 : Int32) = nI 10 from rfl, add_nI]; exact nI_ne0 (by omega) (by omega))]
    show fb_X2_takeTemperature_1 z (-nI u) (r 203) _ (enc _) _ = _
    unfold fb_X2_takeTemperature_1
    simp (disch := omega) only [enc_hi, enc_l0, enc_lo, enc_up0, enc_upl, upd_at, upd_off]
    rfl
theorem X5_min (a b : Int32) : f_X5_min a b = some (mn a b) := by
  unfold f_X5_min mn
  by_cases h : b ≤ a
  · rw [if_pos h, if_pos h]
  · rw [if_neg h, if_neg h]
theorem X5_weather {r : Row} {z w' : Nat} {t : Int32} (hz : z < 4) (hs : sw r z) (hr : rt r) (ht : dg t) (hw : w' ≤ 30) : f_X5_weather r (nI z) t (nI w') = some (S_wt r z t (nI w')) := by
  obtain ⟨a, ha, hsn⟩ := sn1_nI hs hw
  obtain ⟨f, hf1, hf9, hf⟩ := hr
  have q0 : ¬ 205 ≤ 35 * z := by omega
  have q1 : ¬ 205 ≤ 35 * z + 1 := by omega
  have q2 : ¬ 205 ≤ 35 * z + 2 := by omega
  have q3 : ¬ 205 ≤ 35 * z + 3 := by omega
  have q4 : ¬ 205 ≤ 35 * z + 4 := by omega
  have i35 : (35 : Int32) * nI z = nI (35 * z) := by rw [show (35 : Int32) = nI 35 from rfl, mul_nI]
  have i0 : nI (35 * z) + 0 = nI (35 * z) := Int32.add_zero _
  have i1 : nI (35 * z) + 1 = nI (35 * z + 1) := add_nI _ 1
  have i2 : nI (35 * z) + 2 = nI (35 * z + 2) := add_nI _ 2
  have i3 : nI (35 * z) + 3 = nI (35 * z + 3) := add_nI _ 3
  have i4 : nI (35 * z) + 4 = nI (35 * z + 4) := add_nI _ 4
  have c203 : (203 : Int32).toNatClampNeg = 203 := rfl
  have hsn' : mn 99 (r (35 * z) + nI w' + mn (nI w') (r (35 * z + 1))) = sn1 r z (nI w') := rfl
  unfold f_X5_weather
  simp (disch := omega) only [i35, i0, i1, i2, i3, i4, oob_nI, cl_nI, q0, q1, q2, q3, q4, c203, if_false, X5_min, Option.bind_some, upd_at, upd_off, hsn']
  unfold S_wt
  have fl : ∀ g v, fl_X5_weather (nI z) t (nI w') FU g v = fb_X5_weather_1 (nI z) t (nI w') (fl_X5_weather (nI z) t (nI w') 999999999) g v := fun _ _ => rfl
  rw [fl, fl, fl]
  unfold fb_X5_weather_1
  simp (disch := omega) only [i35, i0, i1, i2, i3, i4, oob_nI, cl_nI, q0, q1, q2, q3, q4, c203, if_false, upd_at, upd_off, upd_two]
  rcases dg_cases ht with h0 | ⟨u, hu1, hu2, h⟩ | ⟨u, hu1, hu2, h⟩
  · subst h0
    rw [if_pos (by decide), if_pos (by decide), if_pos (by decide), if_pos (by decide)]
  · subst h
    have hml : ml1 r z (nI u) (nI w') = nI (min (u * f) a) := by
      unfold ml1
      rw [hf, mul_nI, hsn, mn_nI (by have := Nat.mul_le_mul hu2 hf9; omega) (by omega)]
    have hmle : min (u * f) a ≤ a := Nat.min_le_right _ _
    have hle : (sn1 r z (nI w') - ml1 r z (nI u) (nI w') ≤ 0) ↔ (sn1 r z (nI w') - ml1 r z (nI u) (nI w') = 0) := by
      rw [hml, hsn, sub_nI hmle, show (0 : Int32) = nI 0 from rfl, le_nI (by omega) (by omega), eq_nI (by omega) (by omega)]
      omega
    have hml' : mn (nI u * r 203) (sn1 r z (nI w')) = ml1 r z (nI u) (nI w') := rfl
    rw [if_neg (nI_nle (by omega) (by omega)), if_neg (nI_nle (by omega) (by omega)), if_pos (nI_pos' (by omega)), if_pos (nI_pos' (by omega)), hml']
    by_cases hc : sn1 r z (nI w') - ml1 r z (nI u) (nI w') = 0
    · rw [if_pos (hle.mpr hc), if_pos hc, if_neg (by rw [hf]; exact nI_ne0 (by omega) (by omega))]
    · rw [if_neg (fun x => hc (hle.mp x)), if_neg hc, upd_id (f := upd r (35 * z) (sn1 r z (nI w') - ml1 r z (nI u) (nI w'))) (k := 35 * z + 3) (by rw [upd_off _ _ (by omega), Int32.add_zero])]
  · subst h
    have hneg := neg_nI_lt hu1 (by omega : u < 2147483648)
    rw [if_pos (Int32.le_of_lt hneg), if_pos (Int32.le_of_lt hneg), if_neg (Int32.not_le.mpr hneg), if_neg (Int32.not_le.mpr hneg)]
    rw [if_neg (by rw [hsn, show (10 : Int32) = nI 10 from rfl, add_nI]; exact nI_ne0 (by omega) (by omega))]
    rfl
/-! the first cell that is so -/
def fst (p : Nat → Bool) : Nat → Nat → Nat
  | k, 0 => k
  | k, m + 1 => if p k then k else fst p (k + 1) m
theorem fst_ge (p : Nat → Bool) : ∀ m k, k ≤ fst p k m ∧ fst p k m ≤ k + m
  | 0, k => ⟨Nat.le_refl _, Nat.le_refl _⟩
  | m + 1, k => by
    have := fst_ge p m (k + 1)
    unfold fst
    split <;> omega
theorem fst_skip (p : Nat → Bool) (N : Nat) : ∀ c, c ≤ N → (∀ j, j < c → p j = false) → fst p 0 N = fst p c (N - c)
  | 0, _, _ => rfl
  | c + 1, hc, h => by
    rw [fst_skip p N c (by omega) (fun j hj => h j (by omega)), show N - c = (N - (c + 1)) + 1 by omega]
    show (if p c = true then c else fst p (c + 1) (N - (c + 1))) = _
    rw [h c (by omega)]
    rfl
theorem X5_first_l {r : Row} {z : Nat} (b q : Bool) (hq : q = b) (hz : z < 4) : ∀ m n k, m < n → k + m = 30 → fl_X5_first r (nI z) (b2i b) n (nI k) = some (nI (fst (fun c => fR r z c == q) k m))
  | 0, n + 1, k, _, hk => by
    have e : k = 30 := by omega
    subst e
    show fb_X5_first_1 r (nI z) (b2i b) (fl_X5_first r (nI z) (b2i b) n) (nI 30) = _
    unfold fb_X5_first_1
    rw [if_pos (by decide)]
    rfl
  | m + 1, n + 1, k, hn, hk => by
    subst hq
    have ih := X5_first_l (r := r) q q rfl hz m n (k + 1) (by omega) (by omega)
    show fb_X5_first_1 r (nI z) (b2i q) (fl_X5_first r (nI z) (b2i q) n) (nI k) = _
    unfold fb_X5_first_1
    have h2 : ¬ 30 ≤ k := by omega
    have e1 : nI k + 1 = nI (k + 1) := add_nI k 1
    rw [show (30 : Int32) = nI 30 from rfl, if_neg (fun x => h2 ((le_nI (by omega) (by omega)).mp x)), X5_frozen hz (by omega), Option.bind_some, e1, ih]
    show _ = some (nI (if (fR r z k == q) = true then k else fst (fun c => fR r z c == q) (k + 1) m))
    cases fR r z k <;> cases q <;> simp [b2i]
theorem X5_first0 {r : Row} {z : Nat} (hz : z < 4) : f_X5_first r (nI z) 0 = some (nI (fst (fun c => fR r z c == false) 0 30)) := X5_first_l false false rfl hz 30 FU 0 (fu_lt (by omega)) (by omega)
theorem X5_first1 {r : Row} {z : Nat} (hz : z < 4) : f_X5_first r (nI z) 1 = some (nI (fst (fun c => fR r z c == true) 0 30)) := X5_first_l true true rfl hz 30 FU 0 (fu_lt (by omega)) (by omega)
