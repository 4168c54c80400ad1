/-! layers as they froze -/
def eb (r : Row) (z a c : Nat) : Bool := fR r z a && (fR r z c && (decide (r (35 * z + (5 + a)) < r (35 * z + (5 + c))) || (decide (r (35 * z + (5 + a)) = r (35 * z + (5 + c))) && decide (a < c))))
theorem fR_pos {r : Row} {z c : Nat} (h : fR r z c = true) : 0 < r (35 * z + (5 + c)) := of_decide_eq_true h
theorem enc_fR {r : Row} {z c : Nat} (hz : z < 4) (hc : c < 30) (h : fR r z c = true) : enc r (35 * z + (5 + c)) = r (35 * z + (5 + c)) := by
  rw [enc_c (isC_c hz hc), if_pos (fR_pos h)]
theorem X2_frozeBefore {r : Row} {z a c : Nat} (hz : z < 4) (ha : a < 30) (hc : c < 30) : f_X2_frozeBefore (enc r) z (nI a) (nI c) = some (b2i (eb r z a c)) := by
  have oa : ¬ oob (nI a) 30 := by rw [oob_nI (by omega)]; omega
  have oc : ¬ oob (nI c) 30 := by rw [oob_nI (by omega)]; omega
  have ca : (nI a).toNatClampNeg = a := cl_nI (by omega)
  have cc : (nI c).toNatClampNeg = c := cl_nI (by omega)
  unfold f_X2_frozeBefore
  rw [E2_isFrozen hz ha, Option.bind_some, E2_isFrozen hz hc, Option.bind_some, if_neg oa, if_neg oc]
  unfold eb
  cases h1 : fR r z a with
  | false => rfl
  | true =>
    rw [b2i_t, if_neg i10]
    cases h2 : fR r z c with
    | false => rfl
    | true =>
      rw [b2i_t, if_neg i10]
      simp only [ca, cc, enc_fR hz ha h1, enc_fR hz hc h2]
      by_cases g1 : r (35 * z + (5 + a)) < r (35 * z + (5 + c))
      · rw [if_pos g1, decide_eq_true g1]; rfl
      · rw [if_neg g1, decide_eq_false g1]
        by_cases g2 : r (35 * z + (5 + a)) = r (35 * z + (5 + c))
        · rw [if_pos g2, decide_eq_true g2]
          by_cases g3 : c ≤ a
          · rw [if_pos ((le_nI (by omega) (by omega)).mpr g3), decide_eq_false (by omega : ¬ a < c)]; rfl
          · rw [if_neg (fun x => g3 ((le_nI (by omega) (by omega)).mp x)), decide_eq_true (by omega : a < c)]; rfl
        · rw [if_neg g2, decide_eq_false g2]; rfl
theorem X2_frozeBefore_out {g : Row} {z : Nat} {a c : Int32} (h : a < 0 ∨ 30 ≤ a) : f_X2_frozeBefore g z a c = some 0 := by
  unfold f_X2_frozeBefore
  rw [X2_isFrozen_out h]
  rfl
def abv (r : Row) (z c : Nat) : Bool := decide (0 < c) && eb r z (c - 1) c
def blw (r : Row) (z c : Nat) : Bool := decide (c < 29) && eb r z (c + 1) c
theorem X2_above {r : Row} {z c : Nat} (hz : z < 4) (hc : c < 30) : f_X2_frozeBefore (enc r) z (nI c - 1) (nI c) = some (b2i (abv r z c)) := by
  unfold abv
  by_cases h : c = 0
  · subst h
    rw [X2_frozeBefore_out (Or.inl (by decide))]
    rfl
  · obtain ⟨c', rfl⟩ : ∃ c', c = c' + 1 := ⟨c - 1, by omega⟩
    have e : nI (c' + 1) - 1 = nI c' := nI_m1 c'
    rw [e, X2_frozeBefore hz (by omega) hc, decide_eq_true (by omega : 0 < c' + 1), Nat.add_sub_cancel, Bool.true_and]
theorem X2_below {r : Row} {z c : Nat} (hz : z < 4) (hc : c < 30) : f_X2_frozeBefore (enc r) z (nI c + 1) (nI c) = some (b2i (blw r z c)) := by
  unfold blw
  have e : nI c + 1 = nI (c + 1) := add_nI c 1
  rw [e]
  by_cases h : c = 29
  · subst h
    rw [X2_frozeBefore_out (Or.inr (by decide))]
    rfl
  · rw [X2_frozeBefore hz (by omega) hc, decide_eq_true (by omega : c < 29), Bool.true_and]
def jst (r : Row) (z c : Nat) (v : Int32) : Int32 := if fR r z c then v + ((1 - b2i (abv r z c)) - b2i (blw r z c)) else v
theorem X2_joined_l {r : Row} {z : Nat} (hz : z < 4) : ∀ m n k v, 2 * m < n → k + m = 30 → fl_X2_layersAsTheyFroze (enc r) z n 1 0 0 0 v (nI k) = some (itr (jst r z) k m v)
  | 0, n + 1, k, v, _, hk => by
    have e : k = 30 := by omega
    subst e
    show fb_X2_layersAsTheyFroze_1 (enc r) z (fl_X2_layersAsTheyFroze (enc r) z n) 0 0 0 v (nI 30) = _
    unfold fb_X2_layersAsTheyFroze_1
    rw [if_pos (by decide)]
    rfl
  | m + 1, n + 2, k, v, hn, hk => by
    have h30 : ¬ (30 : Int32) ≤ nI k := fun x => by rw [show (30 : Int32) = nI 30 from rfl, le_nI (by omega) (by omega)] at x; omega
    have e1 : nI k + 1 = nI (k + 1) := add_nI k 1
    show fb_X2_layersAsTheyFroze_1 (enc r) z (fl_X2_layersAsTheyFroze (enc r) z (n + 1)) 0 0 0 v (nI k) = some (itr (jst r z) (k + 1) m (jst r z k v))
    unfold fb_X2_layersAsTheyFroze_1
    rw [if_neg h30, E2_isFrozen hz (by omega), Option.bind_some, X2_above hz (by omega), Option.bind_some, e1]
    have ih := fun v' => X2_joined_l (r := r) hz m n (k + 1) v' (by omega) (by omega)
    have ih2 := fun v' => X2_joined_l (r := r) hz m (n + 1) (k + 1) v' (by omega) (by omega)
    have step : ∀ t, fl_X2_layersAsTheyFroze (enc r) z (n + 1) 2 t 1 v 0 (nI k) = some (itr (jst r z) (k + 1) m (v + ((1 - t) - b2i (blw r z k)))) := fun t => by
      show fb_X2_layersAsTheyFroze_2 (enc r) z (fl_X2_layersAsTheyFroze (enc r) z n) t 1 v 0 (nI k) = _
      unfold fb_X2_layersAsTheyFroze_2
      rw [X2_below hz (by omega), Option.bind_some, e1]
      cases blw r z k with
      | false => rw [b2i_f, if_pos rfl, ih]
      | true => rw [b2i_t, if_neg i10, ih]
    unfold jst
    cases fR r z k with
    | false =>
      rw [b2i_f, if_pos rfl, ih2]
      rfl
    | true =>
      rw [b2i_t, if_neg i10]
      cases abv r z k with
      | false => rw [b2i_f, if_pos rfl, step]; rfl
      | true => rw [b2i_t, if_neg i10, step]; rfl
theorem X5_isElder {r : Row} {z a c : Nat} (hz : z < 4) (ha : a < 30) (hc : c < 30) : f_X5_isElder r (nI z) (nI a) (nI c) = some (b2i (decide (r (35 * z + (5 + a)) < r (35 * z + (5 + c))) || (decide (r (35 * z + (5 + a)) = r (35 * z + (5 + c))) && decide (a < c)))) := by
  have oa : ¬ oob (nI (35 * z + (5 + a))) 205 := by rw [oob_nI (by omega)]; omega
  have oc : ¬ oob (nI (35 * z + (5 + c))) 205 := by rw [oob_nI (by omega)]; omega
  have ca : (nI (35 * z + (5 + a))).toNatClampNeg = 35 * z + (5 + a) := cl_nI (by omega)
  have cc : (nI (35 * z + (5 + c))).toNatClampNeg = 35 * z + (5 + c) := cl_nI (by omega)
  unfold f_X5_isElder
  rw [X5_cell, Option.bind_some, if_neg oa, X5_cell, Option.bind_some, if_neg oc]
  simp only [ca, cc]
  by_cases g1 : r (35 * z + (5 + a)) < r (35 * z + (5 + c))
  · rw [if_pos g1, decide_eq_true g1]; rfl
  · rw [if_neg g1, decide_eq_false g1]
    by_cases g2 : r (35 * z + (5 + a)) = r (35 * z + (5 + c))
    · rw [if_pos g2, decide_eq_true g2]
      by_cases g3 : c ≤ a
      · rw [if_pos ((le_nI (by omega) (by omega)).mpr g3), decide_eq_false (by omega : ¬ a < c)]; rfl
      · rw [if_neg (fun x => g3 ((le_nI (by omega) (by omega)).mp x)), decide_eq_true (by omega : a < c)]; rfl
    · rw [if_neg g2, decide_eq_false g2]; rfl
theorem X5_joined_l {r : Row} {z : Nat} (hz : z < 4) : ∀ m n k v, 4 * m < n → k + m = 30 → fl_X5_joinedLayers r (nI z) n 1 0 v (nI k) 0 0 = some (itr (jst r z) k m v)
  | 0, n + 1, k, v, _, hk => by
    have e : k = 30 := by omega
    subst e
    show fb_X5_joinedLayers_1 r (nI z) (fl_X5_joinedLayers r (nI z) n) 0 v (nI 30) 0 0 = _
    unfold fb_X5_joinedLayers_1
    rw [if_pos (by decide)]
    rfl
  | m + 1, n + 4, k, v, hn, hk => by
    have h30 : ¬ (30 : Int32) ≤ nI k := fun x => by rw [show (30 : Int32) = nI 30 from rfl, le_nI (by omega) (by omega)] at x; omega
    have e1 : nI k + 1 = nI (k + 1) := add_nI k 1
    have ih := fun n' (h : 4 * m < n') v' => X5_joined_l (r := r) hz m n' (k + 1) v' h (by omega)
    have s4 : ∀ b b' : Bool, (b = false ∨ b' = false) → fl_X5_joinedLayers r (nI z) (n + 1) 4 v 0 (nI k) (b2i b) (b2i b') = some (itr (jst r z) (k + 1) m (v + ((1 - b2i b) - b2i b'))) := fun b b' hb => by
      show fb_X5_joinedLayers_4 r (nI z) (fl_X5_joinedLayers r (nI z) n) v 0 (nI k) (b2i b) (b2i b') = _
      unfold fb_X5_joinedLayers_4
      rw [e1, ih n (by omega), ih n (by omega)]
      cases b with
      | false =>
        cases b' with
        | false =>
          rw [b2i_f, if_pos rfl, if_pos rfl]
          exact congrArg (fun x => some (itr (jst r z) (k + 1) m (v + x))) (by decide : (1 : Int32) = 1 - 0 - 0)
        | true =>
          rw [b2i_f, b2i_t, if_pos rfl, if_neg i10]
          exact congrArg (fun x => some (itr (jst r z) (k + 1) m (v + x))) (by decide : (0 : Int32) = 1 - 0 - 1)
      | true =>
        cases b' with
        | false =>
          rw [b2i_f, b2i_t, if_neg i10]
          exact congrArg (fun x => some (itr (jst r z) (k + 1) m (v + x))) (by decide : (0 : Int32) = 1 - 1 - 0)
        | true => exact absurd hb (by decide)
    have s3 : ∀ b b' : Bool, fl_X5_joinedLayers r (nI z) (n + 2) 3 (b2i b') v (nI k) (b2i b) 0 = some (itr (jst r z) (k + 1) m (v + ((1 - b2i b) - b2i b'))) := fun b b' => by
      show fb_X5_joinedLayers_3 r (nI z) (fl_X5_joinedLayers r (nI z) (n + 1)) (b2i b') v (nI k) (b2i b) 0 = _
      unfold fb_X5_joinedLayers_3
      rw [e1, ih (n + 1) (by omega)]
      cases b with
      | false => rw [b2i_f, if_pos rfl]; exact s4 false b' (Or.inl rfl)
      | true =>
        rw [b2i_t, if_neg i10]
        cases b' with
        | false => rw [b2i_f, if_pos rfl]; exact s4 true false (Or.inr rfl)
        | true =>
          rw [b2i_t, if_neg i10]
          exact congrArg (fun x => some (itr (jst r z) (k + 1) m (v + x))) (by decide : (-1 : Int32) = 1 - 1 - 1)
    have s2 : fR r z k = true → ∀ b : Bool, fl_X5_joinedLayers r (nI z) (n + 3) 2 (b2i b) v (nI k) 0 0 = some (itr (jst r z) (k + 1) m (v + ((1 - b2i b) - b2i (blw r z k)))) := fun hf b => by
      show fb_X5_joinedLayers_2 r (nI z) (fl_X5_joinedLayers r (nI z) (n + 2)) (b2i b) v (nI k) 0 0 = _
      unfold fb_X5_joinedLayers_2 blw
      by_cases h29 : k = 29
      · rw [if_pos (show (29 : Int32) ≤ nI k from (le_nI (a := 29) (b := k) (by omega) (by omega)).mpr (by omega)), decide_eq_false (by omega : ¬ k < 29)]
        exact s3 b false
      · rw [if_neg (fun x => by rw [show (29 : Int32) = nI 29 from rfl, le_nI (by omega) (by omega)] at x; omega), e1, X5_frozen hz (by omega), Option.bind_some, X5_isElder hz (by omega) (by omega), decide_eq_true (by omega : k < 29), Bool.true_and]
        unfold eb
        rw [hf, Bool.true_and]
        cases fR r z (k + 1) with
        | false => rw [b2i_f, if_pos rfl]; exact s3 b false
        | true =>
          rw [b2i_t, if_neg i10, Option.bind_some, Bool.true_and]
          cases (decide (r (35 * z + (5 + (k + 1))) < r (35 * z + (5 + k))) || (decide (r (35 * z + (5 + (k + 1))) = r (35 * z + (5 + k))) && decide (k + 1 < k))) with
          | false => rw [b2i_f, if_pos rfl]; exact s3 b false
          | true => rw [b2i_t, if_neg i10]; exact s3 b true
    show fb_X5_joinedLayers_1 r (nI z) (fl_X5_joinedLayers r (nI z) (n + 3)) 0 v (nI k) 0 0 = some (itr (jst r z) (k + 1) m (jst r z k v))
    unfold fb_X5_joinedLayers_1
    rw [if_neg h30, X5_frozen hz (by omega), Option.bind_some, e1, ih (n + 3) (by omega)]
    unfold jst
    cases hf : fR r z k with
    | false => rw [b2i_f, if_pos rfl]; rfl
    | true =>
      rw [b2i_t, if_neg i10]
      show _ = some (itr (jst r z) (k + 1) m (v + ((1 - b2i (abv r z k)) - b2i (blw r z k))))
      unfold abv
      by_cases h0 : k = 0
      · rw [if_pos (show nI k ≤ (0 : Int32) from (le_nI (a := k) (b := 0) (by omega) (by omega)).mpr (by omega)), decide_eq_false (by omega : ¬ 0 < k)]
        exact s2 hf false
      · obtain ⟨k', rfl⟩ : ∃ k', k = k' + 1 := ⟨k - 1, by omega⟩
        have em : nI (k' + 1) - 1 = nI k' := nI_m1 k'
        rw [if_neg (nI_nle (by omega) (by omega)), em, X5_frozen hz (by omega), Option.bind_some, X5_isElder hz (by omega) (by omega), decide_eq_true (by omega : 0 < k' + 1), Bool.true_and, Nat.add_sub_cancel]
        unfold eb
        rw [hf, Bool.true_and]
        cases fR r z k' with
        | false => rw [b2i_f, if_pos rfl]; exact s2 hf false
        | true =>
          rw [b2i_t, if_neg i10, Option.bind_some, Bool.true_and]
          cases (decide (r (35 * z + (5 + k')) < r (35 * z + (5 + (k' + 1)))) || (decide (r (35 * z + (5 + k')) = r (35 * z + (5 + (k' + 1)))) && decide (k' < k' + 1))) with
          | false => rw [b2i_f, if_pos rfl]; exact s2 hf false
          | true => rw [b2i_t, if_neg i10]; exact s2 hf true
theorem call_layers {μ ν : Mem} (a1 a2 : Int32) (h : Rel μ ν) : CallQ μ [3, 1] (f_X4_layers μ a1 a2) (f_X5_layers ν a1 a2) := by
  obtain ⟨d, hg⟩ := h.1.2
  have hn : μ 0 = enc (ν 1) := h.1.1
  obtain ⟨m, hm, hm4⟩ := inv_196 hg.1
  have er : (f_X5_refused ν 0) = some (0, rf ν 0) := rfl
  have r1 : rf ν 0 1 = ν 1 := rf_o (i := 1) (by omega)
  rcases in_cases a1 m (by omega) with ⟨z, hz, rfl⟩ | hx
  · have oj : ¬ oob (nI z) 4 := by rw [oob_nI (by omega)]; omega
    have cj : (nI z).toNatClampNeg = z := cl_nI (by omega)
    have hz4 : z < 4 := by omega
    by_cases hr : (0 : Int32) ≤ a2 ∧ a2 ≤ 1
    · by_cases h0 : a2 = 0
      · refine q_ok (v := nI (cf (bgn (fR (ν 1) z)) 0 30)) h ?_ ?_
        · unfold f_X4_layers
          rw [X4_needSite_y hn hm hm4 hz, Option.bind_some, if_pos rfl, X4_needRange_y hr, Option.bind_some, if_pos rfl, if_pos h0, if_neg oj, cj, hn, show (30 : Int32) = nI 30 from rfl, E2_layersWithin hz4 (by omega)]
          rfl
        · unfold f_X5_layers
          rw [X5_isSite_y hm hm4 hz, Option.bind_some, if_neg i10, X5_in_y hr (by decide) (by decide), Option.bind_some, if_neg i10]
          show fb_X5_layers_1 (nI z) a2 (fl_X5_layers (nI z) a2 999999999) ν 0 = _
          unfold fb_X5_layers_1
          rw [er, Option.bind_some, if_pos rfl, if_pos h0]
          show (f_X5_countLayers (rf ν 0 1) (nI z)).bind _ = _
          rw [r1, X5_countLayers hz4]
          rfl
      · refine q_ok (v := itr (jst (ν 1) z) 0 30 0) h ?_ ?_
        · unfold f_X4_layers
          rw [X4_needSite_y hn hm hm4 hz, Option.bind_some, if_pos rfl, X4_needRange_y hr, Option.bind_some, if_pos rfl, if_neg h0, if_neg oj, cj, hn]
          have := X2_joined_l (r := ν 1) hz4 30 FU 0 0 (fu_lt (by omega)) (by omega)
          rw [show f_X2_layersAsTheyFroze (enc (ν 1)) z = some (itr (jst (ν 1) z) 0 30 0) from this]
          rfl
        · unfold f_X5_layers
          rw [X5_isSite_y hm hm4 hz, Option.bind_some, if_neg i10, X5_in_y hr (by decide) (by decide), Option.bind_some, if_neg i10]
          show fb_X5_layers_1 (nI z) a2 (fl_X5_layers (nI z) a2 999999999) ν 0 = _
          unfold fb_X5_layers_1
          rw [er, Option.bind_some, if_pos rfl, if_neg h0]
          show (f_X5_joinedLayers (rf ν 0 1) (nI z)).bind _ = _
          have := X5_joined_l (r := ν 1) hz4 30 FU 0 0 (fu_lt (by omega)) (by omega)
          rw [r1, show f_X5_joinedLayers (ν 1) (nI z) = some (itr (jst (ν 1) z) 0 30 0) from this]
          rfl
    · refine q_no (k := 1) (i := 1) (v := 0) h rfl ?_ ?_
      · unfold f_X4_layers
        rw [X4_needSite_y hn hm hm4 hz, Option.bind_some, if_pos rfl, X4_needRange_n hr]
        rfl
      · unfold f_X5_layers
        rw [X5_isSite_y hm hm4 hz, Option.bind_some, if_neg i10, X5_in_n hr (by decide) (by decide), Option.bind_some, if_pos rfl]
        show fb_X5_layers_1 (nI z) a2 (fl_X5_layers (nI z) a2 999999999) ν 2 = _
        exact ref_no (t := 2) (by decide) _
  · refine q_no (k := 3) (i := 0) (v := 0) h rfl ?_ ?_
    · unfold f_X4_layers
      rw [X4_needSite_n hn hm hx]
      rfl
    · unfold f_X5_layers
      rw [X5_isSite_n hm hm4 hx, Option.bind_some, if_pos rfl]
      show fb_X5_layers_1 a1 a2 (fl_X5_layers a1 a2 999999999) ν 1 = _
      exact ref_no (t := 1) (by decide) _
/-! tubes -/
theorem X5_tube_l {ν : Mem} {a1 a2 : Int32} {z l : Nat} (hz : z < 4) (hl : l ≤ 30) : ∀ m n k, 3 * m < n → k + m = l → ∃ n', n ≤ n' + 3 * m ∧ fl_X5_tubeOf a1 a2 n 2 ν 0 0 (nI z) (nI l) (nI (cf (fR (ν 1) z) 0 k)) (nI (cf (bgn (fR (ν 1) z)) 0 k)) (ld (fR (ν 1) z) k) (nI k) = fl_X5_tubeOf a1 a2 n' 2 ν 0 0 (nI z) (nI l) (nI (cf (fR (ν 1) z) 0 l)) (nI (cf (bgn (fR (ν 1) z)) 0 l)) (ld (fR (ν 1) z) l) (nI l)
  | 0, n, k, _, hk => by
    have e : k = l := by omega
    subst e
    exact ⟨n, by omega, rfl⟩
  | m + 1, n + 3, k, hn, hk => by
    obtain ⟨n', h1, h2⟩ := X5_tube_l (ν := ν) (a1 := a1) (a2 := a2) hz hl m n (k + 1) (by omega) (by omega)
    refine ⟨n', by omega, ?_⟩
    rw [← h2]
    have e1 : nI k + 1 = nI (k + 1) := add_nI k 1
    have hlk : ¬ nI l ≤ nI k := fun x => by rw [le_nI (by omega) (by omega)] at x; omega
    show fb_X5_tubeOf_2 a1 a2 (fl_X5_tubeOf a1 a2 (n + 2)) ν 0 0 (nI z) (nI l) _ _ _ (nI k) = _
    unfold fb_X5_tubeOf_2
    rw [if_neg hlk, X5_frozen hz (by omega), Option.bind_some]
    have s3 : ∀ b : Bool, fl_X5_tubeOf a1 a2 (n + 2) 3 ν (b2i b) (nI (cf (fR (ν 1) z) 0 k)) (nI z) (nI l) 0 (nI (cf (bgn (fR (ν 1) z)) 0 k)) (ld (fR (ν 1) z) k) (nI k) = fl_X5_tubeOf a1 a2 n 2 ν 0 0 (nI z) (nI l) (nI (cf (fR (ν 1) z) 0 k) + b2i b) (nI (cf (bgn (fR (ν 1) z)) 0 (k + 1))) (ld (fR (ν 1) z) (k + 1)) (nI (k + 1)) := fun b => by
      show fb_X5_tubeOf_3 a1 a2 (fl_X5_tubeOf a1 a2 (n + 1)) ν (b2i b) (nI (cf (fR (ν 1) z) 0 k)) (nI z) (nI l) 0 (nI (cf (bgn (fR (ν 1) z)) 0 k)) (ld (fR (ν 1) z) k) (nI k) = _
      unfold fb_X5_tubeOf_3
      rw [X5_begins hz (by omega), Option.bind_some]
      have s4 : ∀ c : Bool, fl_X5_tubeOf a1 a2 (n + 1) 4 ν (b2i c) (nI (cf (bgn (fR (ν 1) z)) 0 k)) (nI z) (nI l) (nI (cf (fR (ν 1) z) 0 k) + b2i b) 0 (ld (fR (ν 1) z) k) (nI k) = fl_X5_tubeOf a1 a2 n 2 ν 0 0 (nI z) (nI l) (nI (cf (fR (ν 1) z) 0 k) + b2i b) (nI (cf (bgn (fR (ν 1) z)) 0 k) + b2i c) (ld (fR (ν 1) z) (k + 1)) (nI (k + 1)) := fun c => by
        show fb_X5_tubeOf_4 a1 a2 (fl_X5_tubeOf a1 a2 n) ν (b2i c) (nI (cf (bgn (fR (ν 1) z)) 0 k)) (nI z) (nI l) (nI (cf (fR (ν 1) z) 0 k) + b2i b) 0 (ld (fR (ν 1) z) k) (nI k) = _
        unfold fb_X5_tubeOf_4
        rw [X5_frozen hz (by omega), Option.bind_some, e1]
        show _ = fl_X5_tubeOf a1 a2 n 2 ν 0 0 (nI z) (nI l) (nI (cf (fR (ν 1) z) 0 k) + b2i b) (nI (cf (bgn (fR (ν 1) z)) 0 k) + b2i c) (if fR (ν 1) z k = true then nI k else ld (fR (ν 1) z) k) (nI (k + 1))
        cases fR (ν 1) z k with
        | false => rw [b2i_f, if_pos rfl]; rfl
        | true => rw [b2i_t, if_neg i10]; rfl
      rw [cf_last, Nat.zero_add]
      cases bgn (fR (ν 1) z) k with
      | false =>
        rw [b2i_f, if_pos rfl]
        have := s4 false
        rw [show nI (cf (bgn (fR (ν 1) z)) 0 k) + b2i false = nI (cf (bgn (fR (ν 1) z)) 0 k + 0) from add_nI _ 0] at this
        exact this
      | true =>
        rw [b2i_t, if_neg i10]
        have := s4 true
        rw [show nI (cf (bgn (fR (ν 1) z)) 0 k) + b2i true = nI (cf (bgn (fR (ν 1) z)) 0 k + 1) from add_nI _ 1] at this
        exact this
    rw [cf_last (fR (ν 1) z), Nat.zero_add]
    cases hf : fR (ν 1) z k with
    | false =>
      rw [b2i_f, if_pos rfl]
      have := s3 false
      rw [show nI (cf (fR (ν 1) z) 0 k) + b2i false = nI (cf (fR (ν 1) z) 0 k + 0) from add_nI _ 0] at this
      exact this
    | true =>
      rw [b2i_t, if_neg i10]
      have := s3 true
      rw [show nI (cf (fR (ν 1) z) 0 k) + b2i true = nI (cf (fR (ν 1) z) 0 k + 1) from add_nI _ 1] at this
      exact this
theorem call_tubeOf {μ ν : Mem} (a1 a2 : Int32) (h : Rel μ ν) : CallQ μ [3, 1] (f_X4_tubeOf μ a1 a2) (f_X5_tubeOf ν a1 a2) := by
  obtain ⟨d, hg⟩ := h.1.2
  have hn : μ 0 = enc (ν 1) := h.1.1
  obtain ⟨m, hm, hm8⟩ := inv_197 hg.1
  have hm' : μ 0 197 = nI m := by rw [hn, enc_hi (by omega), hm]
  rcases in_cases a1 m (by omega) with ⟨t, ht, rfl⟩ | hx
  · have oj : ¬ oob (nI t) 8 := by rw [oob_nI (by omega)]; omega
    have cj : (nI t).toNatClampNeg = t := cl_nI (by omega)
    have p0 : ¬ nI t < 0 := nI_pos (by omega)
    have p1 : nI t < nI m := (lt_nI (by omega) (by omega)).mpr ht
    by_cases hr : (0 : Int32) ≤ a2 ∧ a2 ≤ 5
    · obtain ⟨j, hj, rfl⟩ := rng_nI (n := 5) (by omega) hr
      obtain ⟨z, hz, _, hz3⟩ := inv_at hg.1 (bq_t0 (by omega : t < 8))
      obtain ⟨l, hl, _, hl30⟩ := inv_at hg.1 (bq_t1 (by omega : t < 8))
      have hz4 : z < 4 := by have : z ≤ 3 := hz3; omega
      have hl3 : l ≤ 30 := hl30
      have oz : ¬ oob (nI z) 4 := by rw [oob_nI (by omega)]; omega
      have cz : (nI z).toNatClampNeg = z := cl_nI (by omega)
      have key : ∃ v, f_X0_numberOfTube (enc (ν 1)) (nI t) (nI j) = some v ∧ f_X5_tubeOf ν (nI t) (nI j) = some (v, rf ν 0) := by
        have hX : f_X0_numberOfTube (enc (ν 1)) (nI t) (nI j) = (if nI j = 0 then some (nI z) else if nI j = 1 then some (nI l) else if nI j = 2 then some (nI (cf (fR (ν 1) z) 0 l)) else if nI j = 3 then some (nI (cf (bgn (fR (ν 1) z)) 0 l)) else if nI j = 4 then some (ld (fR (ν 1) z) l) else if ld (fR (ν 1) z) 30 < nI l then some 0 else some 1) := by
          unfold f_X0_numberOfTube
          have g3 : f_X2_lowestWithin (enc (ν 1)) z 30 = some (ld (fR (ν 1) z) 30) := E2_lowestWithin (e := 30) hz4 (by omega)
          have ez : enc (ν 1) (140 + 2 * t) = nI z := by rw [enc_hi (by omega), hz]
          have el : enc (ν 1) (141 + 2 * t) = nI l := by rw [enc_hi (by omega), hl]
          simp only [oj, if_false, cj, ez, el, oz, cz, E2_frozenWithin hz4 hl3, E2_layersWithin hz4 hl3, E2_lowestWithin hz4 hl3, g3, Option.bind_some]
        have hY : f_X5_tubeOf ν (nI t) (nI j) = (if nI j = 0 then some (nI z, rf ν 0) else if nI j = 1 then some (nI l, rf ν 0) else if nI j = 2 then some (nI (cf (fR (ν 1) z) 0 l), rf ν 0) else if nI j = 3 then some (nI (cf (bgn (fR (ν 1) z)) 0 l), rf ν 0) else if nI j = 4 then some (ld (fR (ν 1) z) l, rf ν 0) else if ld (fR (ν 1) z) 30 < nI l then some (0, rf ν 0) else some (1, rf ν 0)) := by
          unfold f_X5_tubeOf
          rw [X5_isTube_y hm hm8 ht, Option.bind_some, if_neg i10, X5_in_y hr (by decide) (by decide), Option.bind_some, if_neg i10]
          show fb_X5_tubeOf_1 (nI t) (nI j) (fl_X5_tubeOf (nI t) (nI j) 999999999) ν 0 0 0 0 0 0 0 0 = _
          unfold fb_X5_tubeOf_1
          have er : (f_X5_refused ν 0) = some (0, rf ν 0) := rfl
          have r1 : rf ν 0 1 = ν 1 := rf_o (i := 1) (by omega)
          have i1 : (140 : Int32) + (2 : Int32) * nI t = nI (140 + 2 * t) := by rw [show (140 : Int32) = nI 140 from rfl, show (2 : Int32) = nI 2 from rfl, mul_nI, add_nI]
          have i2 : nI (140 + 2 * t) + 1 = nI (141 + 2 * t) := by rw [show (1 : Int32) = nI 1 from rfl, add_nI, show 140 + 2 * t + 1 = 141 + 2 * t by omega]
          have o1 : ¬ oob (nI (140 + 2 * t)) 205 := by rw [oob_nI (by omega)]; omega
          have o2 : ¬ oob (nI (141 + 2 * t)) 205 := by rw [oob_nI (by omega)]; omega
          have c1 : (nI (140 + 2 * t)).toNatClampNeg = 140 + 2 * t := cl_nI (by omega)
          have c2 : (nI (141 + 2 * t)).toNatClampNeg = 141 + 2 * t := cl_nI (by omega)
          rw [er, Option.bind_some, if_pos rfl]
          simp only [r1, i1, i2, o1, o2, c1, c2, hz, hl, if_false]
          obtain ⟨n', h1, h2⟩ := X5_tube_l (ν := rf ν 0) (a1 := nI t) (a2 := nI j) hz4 hl3 l 999999999 0 (by omega) (by omega)
          rw [r1] at h2
          obtain ⟨n2, rfl⟩ : ∃ n2, n' = n2 + 1 := ⟨n' - 1, by omega⟩
          refine h2.trans ?_
          show fb_X5_tubeOf_2 (nI t) (nI j) (fl_X5_tubeOf (nI t) (nI j) n2) (rf ν 0) 0 0 (nI z) (nI l) _ _ _ (nI l) = _
          unfold fb_X5_tubeOf_2
          rw [if_pos ((le_nI (by omega) (by omega)).mpr (Nat.le_refl l)), r1, X5_lowest hz4, Option.bind_some]
        rw [hX, hY]
        have : j = 0 ∨ j = 1 ∨ j = 2 ∨ j = 3 ∨ j = 4 ∨ j = 5 := by omega
        rcases this with e | e | e | e | e | e <;> subst e
        · exact ⟨_, rfl, rfl⟩
        · exact ⟨_, rfl, rfl⟩
        · exact ⟨_, rfl, rfl⟩
        · exact ⟨_, rfl, rfl⟩
        · exact ⟨_, rfl, rfl⟩
        · by_cases g : ld (fR (ν 1) z) 30 < nI l
          · simp only [g, if_true]; exact ⟨_, rfl, rfl⟩
          · simp only [g, if_false]; exact ⟨_, rfl, rfl⟩
      obtain ⟨v, k1, k2⟩ := key
      refine q_ok (v := v) h ?_ k2
      unfold f_X4_tubeOf
      rw [if_neg p0, hm', if_pos p1, X4_needRange_y hr, Option.bind_some, if_pos rfl, hn, k1]
      rfl
    · refine q_no (k := 1) (i := 1) (v := 0) h rfl ?_ ?_
      · unfold f_X4_tubeOf
        rw [if_neg p0, hm', if_pos p1, X4_needRange_n hr]
        rfl
      · unfold f_X5_tubeOf
        rw [X5_isTube_y hm hm8 ht, Option.bind_some, if_neg i10, X5_in_n hr (by decide) (by decide), Option.bind_some, if_pos rfl]
        show fb_X5_tubeOf_1 (nI t) a2 (fl_X5_tubeOf (nI t) a2 999999999) ν 2 0 0 0 0 0 0 0 = _
        exact ref_no (t := 2) (by decide) _
  · refine q_no (k := 3) (i := 0) (v := 0) h rfl ?_ ?_
    · unfold f_X4_tubeOf
      by_cases h1 : a1 < 0
      · rw [if_pos h1]
      · rw [if_neg h1, hm', if_neg (Int32.not_lt.mpr (hx.resolve_left h1))]
    · unfold f_X5_tubeOf
      rw [X5_isTube_n hm hm8 hx, Option.bind_some, if_pos rfl]
      show fb_X5_tubeOf_1 a1 a2 (fl_X5_tubeOf a1 a2 999999999) ν 1 0 0 0 0 0 0 0 = _
      exact ref_no (t := 1) (by decide) _
