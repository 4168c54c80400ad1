/-! long numbers -/
def nL (n : Nat) : Int64 := Int64.ofNat n
theorem nI_L {n : Nat} (h : n < 2147483648) : (nI n).toInt64 = nL n := Int32.toInt64_ofNat' (by rw [Int32.toInt_maxValue]; omega)
theorem nL_toInt {n : Nat} (h : n < 2 ^ 63) : (nL n).toInt = (n : Int) := Int64.toInt_ofNat_of_lt h
theorem nL_lt {a b : Nat} (ha : a < 2 ^ 63) (hb : b < 2 ^ 63) : nL a < nL b ↔ a < b := by
  rw [Int64.lt_iff_toInt_lt, nL_toInt ha, nL_toInt hb]; omega
theorem nL_le {a b : Nat} (ha : a < 2 ^ 63) (hb : b < 2 ^ 63) : nL a ≤ nL b ↔ a ≤ b := by
  rw [Int64.le_iff_toInt_le, nL_toInt ha, nL_toInt hb]; omega
theorem nL_eq {a b : Nat} (ha : a < 2 ^ 63) (hb : b < 2 ^ 63) : nL a = nL b ↔ a = b := by
  rw [← Int64.toInt_inj, nL_toInt ha, nL_toInt hb]; omega
theorem nL_add (a b : Nat) : nL a + nL b = nL (a + b) := (Int64.ofNat_add a b).symm
theorem nL_32 {a : Nat} (h : a < 2147483648) : (nL a).toInt32 = nI a := by
  rw [← nI_L h, Int32.toInt32_toInt64]
theorem nL_m1 {a : Nat} (h : a < 2 ^ 63) : ¬ nL a = (-1 : Int64) := fun e => by
  have h1 := congrArg Int64.toInt e
  rw [nL_toInt h] at h1
  have h2 : (-1 : Int64).toInt = -1 := by decide
  omega
theorem nL_gm {a : Nat} (h : a < 2 ^ 63) : (-1 : Int64) < nL a := by
  rw [Int64.lt_iff_toInt_lt, nL_toInt h]
  have h2 : (-1 : Int64).toInt = -1 := by decide
  omega
theorem m1_L : (-1 : Int32).toInt64 = (-1 : Int64) := by decide
theorem cge {a b : Nat} (ha : a < 2 ^ 63) (hb : b < 2 ^ 63) : 0 ≤ lg_cmp (nL a) (nL b) ↔ b ≤ a := by rw [lg_cmp_ge, nL_le hb ha]
theorem cgt {a b : Nat} (ha : a < 2 ^ 63) (hb : b < 2 ^ 63) : 0 < lg_cmp (nL a) (nL b) ↔ b < a := by rw [lg_cmp_gt, nL_lt hb ha]
theorem cle {a b : Nat} (ha : a < 2 ^ 63) (hb : b < 2 ^ 63) : lg_cmp (nL a) (nL b) ≤ 0 ↔ a ≤ b := by rw [lg_cmp_le, nL_le ha hb]
theorem clt {a b : Nat} (ha : a < 2 ^ 63) (hb : b < 2 ^ 63) : lg_cmp (nL a) (nL b) < 0 ↔ a < b := by rw [lg_cmp_lt, nL_lt ha hb]
theorem ceq {a b : Nat} (ha : a < 2 ^ 63) (hb : b < 2 ^ 63) : lg_cmp (nL a) (nL b) = 0 ↔ a = b := by rw [lg_cmp_eq, nL_eq ha hb]
theorem ceq_m {a : Nat} (ha : a < 2 ^ 63) : ¬ lg_cmp (nL a) (-1) = 0 := by rw [lg_cmp_eq]; exact nL_m1 ha
theorem ceq_mm : lg_cmp (-1 : Int64) (-1) = 0 := by rw [lg_cmp_eq]
theorem ceq_s (x : Int64) : lg_cmp x x = 0 := by rw [lg_cmp_eq]
/-! what the law's questions are answered with, over a ground r -/
def cR (r : Row) : Mem := fun _ => r
theorem V_about {μ : Mem} {j : Nat} {v : Int32} (hj : j ≤ 11) (h : f_X0_numberOf (μ 0) (nI j) = some v) : f_L_about μ (nI j) = some v.toInt64 := by
  have hr : (0 : Int32) ≤ nI j ∧ nI j ≤ 11 := ⟨nI_pos' (by omega), by rw [show (11 : Int32) = nI 11 from rfl, le_nI (by omega) (by omega)]; exact hj⟩
  unfold f_L_about f_X4_about
  rw [X4_needRange_y hr, Option.bind_some, if_pos rfl, h]
  rfl
theorem V_ab0 {μ : Mem} {r : Row} {m : Nat} (hn : μ 0 = enc r) (hm : r 196 = nI m) (hm4 : m ≤ 4) : f_L_about μ 0 = some (nL m) := by
  refine (V_about (j := 0) (v := nI m) (by omega) ?_).trans (by rw [nI_L (by omega)])
  rw [hn]
  unfold f_X0_numberOf
  show some (enc r 196) = _
  rw [enc_hi (by omega), hm]
theorem V_ab1 {μ : Mem} {r : Row} {m : Nat} (hn : μ 0 = enc r) (hm : r 197 = nI m) (hm4 : m ≤ 8) : f_L_about μ 1 = some (nL m) := by
  refine (V_about (j := 1) (v := nI m) (by omega) ?_).trans (by rw [nI_L (by omega)])
  rw [hn]
  unfold f_X0_numberOf
  show some (enc r 197) = _
  rw [enc_hi (by omega), hm]
theorem V_ab2 {μ : Mem} {r : Row} {m : Nat} (hn : μ 0 = enc r) (hm : r 198 = nI m) (hm4 : m ≤ 8) : f_L_about μ 2 = some (nL m) := by
  refine (V_about (j := 2) (v := nI m) (by omega) ?_).trans (by rw [nI_L (by omega)])
  rw [hn]
  unfold f_X0_numberOf
  show some (enc r 198) = _
  rw [enc_hi (by omega), hm]
theorem V_ab3 {μ : Mem} {r : Row} {d : Nat} (hn : μ 0 = enc r) (hg : gd 9999 d r) : f_L_about μ 3 = some (nL d) := by
  have := hg.2.2.1
  refine (V_about (j := 3) (v := nI d) (by omega) ?_).trans (by rw [nI_L (by omega)])
  rw [hn]
  unfold f_X0_numberOf
  show some (enc r 199) = _
  rw [enc_hi (by omega), hg.2.1]
theorem V_ab4 {μ : Mem} {r : Row} {d : Nat} (hn : μ 0 = enc r) (hg : gd 9999 d r) : f_L_about μ 4 = some (nL (ac r)) := by
  have := ac_le r
  refine (V_about (j := 4) (v := nI (ac r)) (by omega) ?_).trans (by rw [nI_L (by omega)])
  rw [hn]
  unfold f_X0_numberOf
  rw [X0_frozenCells hg.1]
  rfl
theorem V_ab5 {μ : Mem} {r : Row} {d : Nat} (hn : μ 0 = enc r) (hg : gd 9999 d r) : f_L_about μ 5 = some (nL (al r)) := by
  have := al_le r
  refine (V_about (j := 5) (v := nI (al r)) (by omega) ?_).trans (by rw [nI_L (by omega)])
  rw [hn]
  unfold f_X0_numberOf
  rw [X0_layersOfAll hg.1]
  rfl
theorem V_ab8 {μ : Mem} {r : Row} {d : Nat} (hn : μ 0 = enc r) (hg : gd 9999 d r) : f_L_about μ 8 = some (itr (hst r) 0 (pn r) 0).toInt64 := by
  refine V_about (j := 8) (v := itr (hst r) 0 (pn r) 0) (by omega) ?_
  rw [hn]
  unfold f_X0_numberOf
  rw [X0_heaves hg.1]
  rfl
theorem V_site {μ : Mem} {r : Row} {m z j : Nat} {v : Int32} (hn : μ 0 = enc r) (hm : r 196 = nI m) (hm4 : m ≤ 4) (hz : z < m) (hj : j ≤ 8) (h : f_X2_numberOf (enc r) z (nI j) = some v) : f_L_siteOf μ (nI z) (nI j) = some v.toInt64 := by
  have hr : (0 : Int32) ≤ nI j ∧ nI j ≤ 8 := ⟨nI_pos' (by omega), by rw [show (8 : Int32) = nI 8 from rfl, le_nI (by omega) (by omega)]; exact hj⟩
  have oj : ¬ oob (nI z) 4 := by rw [oob_nI (by omega)]; omega
  have cj : (nI z).toNatClampNeg = z := cl_nI (by omega)
  unfold f_L_siteOf f_X4_siteOf
  rw [X4_needSite_y (ν := cR r) hn hm hm4 hz, Option.bind_some, if_pos rfl, X4_needRange_y hr, Option.bind_some, if_pos rfl, if_neg oj, cj, hn, h]
  rfl
theorem N_j {r : Row} {z j : Nat} (hj : j < 5) : f_X2_numberOf (enc r) z (nI j) = some (r (35 * z + j)) := by
  unfold f_X2_numberOf
  rw [← enc_lo (r := r) (z := z) hj]
  have : j = 0 ∨ j = 1 ∨ j = 2 ∨ j = 3 ∨ j = 4 := by omega
  rcases this with e | e | e | e | e <;> subst e <;> rfl
theorem N_5 {r : Row} {z : Nat} (hz : z < 4) : f_X2_numberOf (enc r) z (nI 5) = some (nI (cf (fR r z) 0 30)) := by
  have g1 : f_X2_frozenWithin (enc r) z 30 = some (nI (cf (fR r z) 0 30)) := E2_frozenWithin (e := 30) hz (by omega)
  unfold f_X2_numberOf
  rw [g1]
  rfl
theorem N_6 {r : Row} {z : Nat} (hz : z < 4) : f_X2_numberOf (enc r) z (nI 6) = some (nI (cf (bgn (fR r z)) 0 30)) := by
  have g1 : f_X2_layersWithin (enc r) z 30 = some (nI (cf (bgn (fR r z)) 0 30)) := E2_layersWithin (e := 30) hz (by omega)
  unfold f_X2_numberOf
  rw [g1]
  rfl
theorem N_7 {r : Row} {z : Nat} (hz : z < 4) : f_X2_numberOf (enc r) z (nI 7) = some (ld (fR r z) 30) := by
  have g1 : f_X2_lowestWithin (enc r) z 30 = some (ld (fR r z) 30) := E2_lowestWithin (e := 30) hz (by omega)
  unfold f_X2_numberOf
  rw [g1]
  rfl
theorem V_since {μ : Mem} {r : Row} {m z c : Nat} (hn : μ 0 = enc r) (hm : r 196 = nI m) (hm4 : m ≤ 4) (hz : z < m) (hc : c < 30) : f_L_since μ (nI z) (nI c) = some (if 0 < r (35 * z + (5 + c)) then r (35 * z + (5 + c)) else -1).toInt64 := by
  have oj : ¬ oob (nI z) 4 := by rw [oob_nI (by omega)]; omega
  have cj : (nI z).toNatClampNeg = z := cl_nI (by omega)
  have oc : ¬ oob (nI c) 30 := by rw [oob_nI (by omega)]; omega
  have cc : (nI c).toNatClampNeg = c := cl_nI (by omega)
  unfold f_L_since f_X4_since
  rw [X4_needSite_y (ν := cR r) hn hm hm4 hz, Option.bind_some, if_pos rfl, X4_needCell_y hc, Option.bind_some, if_pos rfl, if_neg oj, if_neg oc, cj, cc, hn, enc_c (isC_c (by omega) hc)]
  rfl
theorem V_since1 {μ : Mem} {r : Row} {m z c d : Nat} (hn : μ 0 = enc r) (hg : gd 9999 d r) (hm : r 196 = nI m) (hm4 : m ≤ 4) (hz : z < m) (hc : c < 30) (hf : fR r z c = true) : ∃ q, 0 < q ∧ q ≤ d ∧ r (35 * z + (5 + c)) = nI q ∧ f_L_since μ (nI z) (nI c) = some (nL q) := by
  obtain ⟨q, q1, q2, q3, q4⟩ := cell_N hg.1 (by omega : z < 4) hc
  have hd := hg.2.2.1
  have h1 := hg.1.2.1 _ (isC_c (by omega : z < 4) hc)
  rw [q2, hg.2.1, le_nI (by omega) (by omega)] at h1
  refine ⟨q, q4.mp hf, h1, q2, ?_⟩
  rw [V_since hn hm hm4 hz hc, if_pos (fR_pos hf), q2, nI_L (by omega)]
theorem V_since0 {μ : Mem} {r : Row} {m z c : Nat} (hn : μ 0 = enc r) (hm : r 196 = nI m) (hm4 : m ≤ 4) (hz : z < m) (hc : c < 30) (hf : fR r z c = false) : f_L_since μ (nI z) (nI c) = some (-1) := by
  rw [V_since hn hm hm4 hz hc, if_neg (of_decide_eq_false hf)]
  rfl
theorem V_layers0 {μ : Mem} {r : Row} {m z : Nat} (hn : μ 0 = enc r) (hm : r 196 = nI m) (hm4 : m ≤ 4) (hz : z < m) : f_L_layers μ (nI z) 0 = some (nL (cf (bgn (fR r z)) 0 30)) := by
  have oj : ¬ oob (nI z) 4 := by rw [oob_nI (by omega)]; omega
  have cj : (nI z).toNatClampNeg = z := cl_nI (by omega)
  have := cf_le (bgn (fR r z)) 30 0
  rw [← nI_L (by omega)]
  unfold f_L_layers f_X4_layers
  rw [X4_needSite_y (ν := cR r) hn hm hm4 hz, Option.bind_some, if_pos rfl, X4_needRange_y (by decide), Option.bind_some, if_pos rfl, if_pos rfl, if_neg oj, cj, hn, show (30 : Int32) = nI 30 from rfl, E2_layersWithin (by omega) (by omega)]
  rfl
/-- told by the cells in the order in which they froze: the same number -/
def bw (r : Row) (z m : Nat) : Bool := decide (0 < m) && (fR r z (m - 1) && blw r z (m - 1))
theorem bw_0 (r : Row) (z : Nat) : bw r z 0 = false := by
  unfold bw
  rw [decide_eq_false (Nat.lt_irrefl 0), Bool.false_and]
theorem abv_0 (r : Row) (z : Nat) : abv r z 0 = false := by
  unfold abv
  rw [decide_eq_false (Nat.lt_irrefl 0), Bool.false_and]
theorem jst_l {r : Row} {z : Nat} : ∀ m, m ≤ 30 → itr (jst r z) 0 m 0 = nI (cf (bgn (fR r z)) 0 m) - b2i (bw r z m)
  | 0, _ => by
    rw [bw_0]
    show (0 : Int32) = nI 0 - b2i false
    decide
  | m + 1, hm => by
    have ih := jst_l (r := r) (z := z) m (by omega)
    have hl : ∀ (k : Nat) (v : Int32), itr (jst r z) 0 (k + 1) v = jst r z k (itr (jst r z) 0 k v) := by
      have gen : ∀ (k a : Nat) (v : Int32), itr (jst r z) a (k + 1) v = jst r z (a + k) (itr (jst r z) a k v) := by
        intro k
        induction k with
        | zero => intro a v; rfl
        | succ k IH =>
          intro a v
          show itr (jst r z) (a + 1) (k + 1) (jst r z a v) = _
          rw [IH (a + 1) (jst r z a v), show a + 1 + k = a + (k + 1) by omega]
          rfl
      intro k v
      have := gen k 0 v
      rwa [Nat.zero_add] at this
    rw [hl, ih, cf_last, Nat.zero_add]
    unfold jst
    have e9 : bw r z (m + 1) = (fR r z m && blw r z m) := by
      unfold bw
      rw [decide_eq_true (by omega : 0 < m + 1), Nat.add_sub_cancel]
      rfl
    rw [e9]
    by_cases hf : fR r z m = true
    · rw [if_pos hf, hf]
      by_cases h0 : 0 < m
      · by_cases hp : fR r z (m - 1) = true
        · have hb : bgn (fR r z) m = false := by
            unfold bgn
            rw [hf, hp, decide_eq_true h0]
            rfl
          have hx : abv r z m = !(blw r z (m - 1)) := by
            unfold abv blw eb
            rw [show m - 1 + 1 = m by omega, hf, hp, decide_eq_true h0, decide_eq_true (by omega : m - 1 < 29)]
            simp only [Bool.true_and]
            rw [decide_eq_true (by omega : m - 1 < m), decide_eq_false (by omega : ¬ m < m - 1), Bool.and_true, Bool.and_false, Bool.or_false]
            by_cases c1 : r (35 * z + (5 + (m - 1))) < r (35 * z + (5 + m))
            · rw [decide_eq_true c1, decide_eq_false (Int32.not_lt.mpr (Int32.le_of_lt c1))]
              rfl
            · by_cases c2 : r (35 * z + (5 + (m - 1))) = r (35 * z + (5 + m))
              · rw [decide_eq_true c2, decide_eq_false (show ¬ r (35 * z + (5 + m)) < r (35 * z + (5 + (m - 1))) by rw [c2]; exact Int32.lt_irrefl), Bool.or_true]
                rfl
              · rw [decide_eq_false c1, decide_eq_false c2, decide_eq_true (Int32.lt_of_le_of_ne (Int32.not_lt.mp c1) (fun e => c2 e.symm))]
                rfl
          have hw : bw r z m = blw r z (m - 1) := by
            unfold bw
            rw [decide_eq_true h0, hp]
            rfl
          rw [hb, hw, hx]
          cases blw r z (m - 1)
          · cases blw r z m
            · show _ - b2i false + (1 - b2i true - b2i false) = _
              rw [show (1 - b2i true - b2i false : Int32) = 0 by decide, Int32.add_zero]
              rfl
            · show _ - b2i false + (1 - b2i true - b2i true) = _
              rw [show (1 - b2i true - b2i true : Int32) = -1 by decide, show b2i false = 0 from rfl, Int32.sub_zero]
              show _ = nI (cf (bgn (fR r z)) 0 m) - 1
              rw [Int32.sub_eq_add_neg]
          · cases blw r z m
            · show _ - b2i true + (1 - b2i false - b2i false) = _
              rw [show (1 - b2i false - b2i false : Int32) = b2i true by decide, Int32.sub_add_cancel]
              show _ = nI (cf (bgn (fR r z)) 0 m) - 0
              rw [Int32.sub_zero]
            · show _ - b2i true + (1 - b2i false - b2i true) = _
              rw [show (1 - b2i false - b2i true : Int32) = 0 by decide, Int32.add_zero]
              rfl
        · have hp' : fR r z (m - 1) = false := by cases h : fR r z (m - 1) with | true => exact absurd h hp | false => rfl
          have hb : bgn (fR r z) m = true := by
            unfold bgn
            rw [hf, hp']
            cases decide (0 < m) <;> rfl
          have hx : abv r z m = false := by
            unfold abv eb
            rw [hp']
            cases decide (0 < m) <;> rfl
          have hw : bw r z m = false := by
            unfold bw
            rw [hp']
            cases decide (0 < m) <;> rfl
          rw [hb, hw, hx, show b2i false = 0 from rfl, Int32.sub_zero]
          rw [if_pos rfl, ← add_nI]
          cases blw r z m
          · show _ + (1 - 0 - b2i false) = _ - b2i false
            rw [show (1 - 0 - b2i false : Int32) = nI 1 by decide, show b2i false = 0 from rfl, Int32.sub_zero]
          · show _ + (1 - 0 - b2i true) = _ - b2i true
            rw [show (1 - 0 - b2i true : Int32) = 0 by decide, Int32.add_zero, show b2i true = nI 1 from rfl, Int32.add_sub_cancel]
      · have e0 : m = 0 := by omega
        subst e0
        have hb : bgn (fR r z) 0 = true := by
          unfold bgn
          rw [hf]
          rfl
        rw [hb, if_pos rfl, bw_0, abv_0]
        cases h : blw r z 0
        · show nI 0 - b2i false + (1 - b2i false - b2i false) = nI (0 + 1) - b2i false
          decide
        · show nI 0 - b2i false + (1 - b2i false - b2i true) = nI (0 + 1) - b2i true
          decide
    · have hf' : fR r z m = false := by cases h : fR r z m with | true => exact absurd h hf | false => rfl
      have hb : bgn (fR r z) m = false := by
        unfold bgn
        rw [hf']
        rfl
      have hw : bw r z m = false := by
        unfold bw blw eb
        by_cases h0 : 0 < m
        · rw [show m - 1 + 1 = m by omega, hf']
          cases decide (0 < m) <;> cases fR r z (m - 1) <;> cases decide (m - 1 < 29) <;> rfl
        · rw [decide_eq_false h0]
          rfl
      rw [if_neg hf, hb, hw, hf']
      rfl
theorem V_layers1 {μ : Mem} {r : Row} {m z : Nat} (hn : μ 0 = enc r) (hm : r 196 = nI m) (hm4 : m ≤ 4) (hz : z < m) : f_L_layers μ (nI z) 1 = some (nL (cf (bgn (fR r z)) 0 30)) := by
  have oj : ¬ oob (nI z) 4 := by rw [oob_nI (by omega)]; omega
  have cj : (nI z).toNatClampNeg = z := cl_nI (by omega)
  have := cf_le (bgn (fR r z)) 30 0
  have hj : itr (jst r z) 0 30 0 = nI (cf (bgn (fR r z)) 0 30) := by
    rw [jst_l 30 (by omega)]
    have hw : bw r z 30 = false := by
      unfold bw blw
      rw [decide_eq_false (by omega : ¬ 30 - 1 < 29), Bool.false_and, Bool.and_false, Bool.and_false]
    rw [hw]
    exact Int32.sub_zero _
  rw [← nI_L (by omega)]
  unfold f_L_layers f_X4_layers
  rw [X4_needSite_y (ν := cR r) hn hm hm4 hz, Option.bind_some, if_pos rfl, X4_needRange_y (by decide), Option.bind_some, if_pos rfl, if_neg (by decide), if_neg oj, cj, hn]
  have h1 := X2_joined_l (r := r) (by omega : z < 4) 30 FU 0 0 (fu_lt (by omega)) (by omega)
  rw [show f_X2_layersAsTheyFroze (enc r) z = some (itr (jst r z) 0 30 0) from h1, hj]
  rfl
theorem V_tube {μ : Mem} {r : Row} {m t j z l : Nat} (hn : μ 0 = enc r) (hm : r 197 = nI m) (hm8 : m ≤ 8) (ht : t < m) (hz : r (140 + 2 * t) = nI z) (hz4 : z < 4) (hl : r (141 + 2 * t) = nI l) (hl3 : l ≤ 30) (hj : j ≤ 5) :
    f_L_tubeOf μ (nI t) (nI j) = some (if j = 0 then nI z else if j = 1 then nI l else if j = 2 then nI (cf (fR r z) 0 l) else if j = 3 then nI (cf (bgn (fR r z)) 0 l) else if j = 4 then ld (fR r z) l else if ld (fR r z) 30 < nI l then 0 else 1).toInt64 := by
  have hm' : μ 0 197 = nI m := by rw [hn, enc_hi (by omega), hm]
  have oj : ¬ oob (nI t) 8 := by rw [oob_nI (by omega)]; omega
  have cj : (nI t).toNatClampNeg = t := cl_nI (by omega)
  have p0 : ¬ nI t < 0 := nI_pos (by omega)
  have p1 : nI t < nI m := (lt_nI (by omega) (by omega)).mpr ht
  have hr : (0 : Int32) ≤ nI j ∧ nI j ≤ 5 := ⟨nI_pos' (by omega), by rw [show (5 : Int32) = nI 5 from rfl, le_nI (by omega) (by omega)]; exact hj⟩
  have oz : ¬ oob (nI z) 4 := by rw [oob_nI (by omega)]; omega
  have cz : (nI z).toNatClampNeg = z := cl_nI (by omega)
  have hX : f_X0_numberOfTube (enc r) (nI t) (nI j) = some (if j = 0 then nI z else if j = 1 then nI l else if j = 2 then nI (cf (fR r z) 0 l) else if j = 3 then nI (cf (bgn (fR r z)) 0 l) else if j = 4 then ld (fR r z) l else if ld (fR r z) 30 < nI l then 0 else 1) := by
    unfold f_X0_numberOfTube
    have g3 : f_X2_lowestWithin (enc r) z 30 = some (ld (fR r z) 30) := E2_lowestWithin (e := 30) hz4 (by omega)
    have ez : enc r (140 + 2 * t) = nI z := by rw [enc_hi (by omega), hz]
    have el : enc r (141 + 2 * t) = nI l := by rw [enc_hi (by omega), hl]
    simp only [oj, if_false, cj, ez, el, oz, cz, E2_frozenWithin hz4 hl3, E2_layersWithin hz4 hl3, E2_lowestWithin hz4 hl3, g3, Option.bind_some]
    have : j = 0 ∨ j = 1 ∨ j = 2 ∨ j = 3 ∨ j = 4 ∨ j = 5 := by omega
    rcases this with e | e | e | e | e | e <;> subst e
    · rfl
    · rfl
    · rfl
    · rfl
    · rfl
    · by_cases g : ld (fR r z) 30 < nI l
      · simp only [g, if_true]; rfl
      · simp only [g, if_false]; rfl
  unfold f_L_tubeOf f_X4_tubeOf
  rw [if_neg p0, hm', if_pos p1, X4_needRange_y hr, Option.bind_some, if_pos rfl, hn, hX]
  rfl
theorem V_pipe {μ : Mem} {r : Row} {m p j : Nat} (hn : μ 0 = enc r) (hm : r 198 = nI m) (hm8 : m ≤ 8) (hp : p < m) (hj : j ≤ 4) : f_L_pipeOf μ (nI p) (nI j) = some (r (156 + 5 * p + j)).toInt64 := by
  have oj : ¬ oob (nI p) 8 := by rw [oob_nI (by omega)]; omega
  have cj : (nI p).toNatClampNeg = p := cl_nI (by omega)
  have hr : (0 : Int32) ≤ nI j ∧ nI j ≤ 4 := ⟨nI_pos' (by omega), by rw [show (4 : Int32) = nI 4 from rfl, le_nI (by omega) (by omega)]; exact hj⟩
  unfold f_L_pipeOf f_X4_pipeOf
  rw [X4_needPipe_y (ν := cR r) hn hm hm8 hp, Option.bind_some, if_pos rfl, X4_needRange_y hr, Option.bind_some, if_pos rfl, hn]
  unfold f_X0_numberOfPipe
  rw [if_neg oj, if_neg oj, if_neg oj, if_neg oj, if_neg oj, cj, enc_hi (by omega), enc_hi (by omega), enc_hi (by omega), enc_hi (by omega), enc_hi (by omega)]
  have : j = 0 ∨ j = 1 ∨ j = 2 ∨ j = 3 ∨ j = 4 := by omega
  rcases this with e | e | e | e | e <;> subst e
  · rfl
  · rw [show 156 + 5 * p + 1 = 157 + 5 * p by omega]; rfl
  · rw [show 156 + 5 * p + 2 = 158 + 5 * p by omega]; rfl
  · rw [show 156 + 5 * p + 3 = 159 + 5 * p by omega]; rfl
  · rw [show 156 + 5 * p + 4 = 160 + 5 * p by omega]; rfl
theorem ost_le {r : Row} {z : Nat} : ∀ m k (v : Int32), itr (ost r z) k m v ≤ v ∧ ∀ j, k ≤ j → j < k + m → itr (ost r z) k m v ≤ r (35 * z + (5 + j))
  | 0, _, v => ⟨Int32.le_refl v, fun j h1 h2 => absurd h2 (by omega)⟩
  | m + 1, k, v => by
    obtain ⟨h1, h2⟩ := ost_le (r := r) (z := z) m (k + 1) (ost r z k v)
    have e1 : ost r z k v ≤ v := by
      unfold ost mn
      split
      · assumption
      · exact Int32.le_refl v
    have e2 : ost r z k v ≤ r (35 * z + (5 + k)) := by
      unfold ost mn
      split
      · exact Int32.le_refl _
      · exact Int32.le_of_lt (Int32.not_le.mp (by assumption))
    refine ⟨Int32.le_trans h1 e1, fun j j1 j2 => ?_⟩
    by_cases e : j = k
    · subst e
      exact Int32.le_trans h1 e2
    · exact h2 j (by omega) (by omega)
/-- a layer: its first cell, its end, the gap behind it, since when its oldest cell is frozen -/
theorem V_layer {μ : Mem} {r : Row} {m z q : Nat} (hn : μ 0 = enc r) (hm : r 196 = nI m) (hm4 : m ≤ 4) (hz : z < m) (hq : q < cf (bgn (fR r z)) 0 30) :
    ∃ c e g o, c < e ∧ e ≤ 30 ∧ bgn (fR r z) c = true ∧ cf (bgn (fR r z)) 0 c = q ∧ (∀ i, c ≤ i → i < e → fR r z i = true) ∧ (e < 30 → fR r z e = false) ∧
      ((g = 0 ∧ q + 1 = cf (bgn (fR r z)) 0 30 ∧ ∀ i, e ≤ i → i < 30 → fR r z i = false) ∨ (0 < g ∧ e + g < 30 ∧ bgn (fR r z) (e + g) = true ∧ cf (bgn (fR r z)) 0 (e + g) = q + 1 ∧ q + 1 < cf (bgn (fR r z)) 0 30 ∧ ∀ i, e ≤ i → i < e + g → fR r z i = false)) ∧
      (∀ i, c ≤ i → i < e → o ≤ r (35 * z + (5 + i))) ∧ f_L_layerOf μ (nI z) (nI q) 0 = some (nL c) ∧ f_L_layerOf μ (nI z) (nI q) 1 = some (nL (e - c)) ∧ f_L_layerOf μ (nI z) (nI q) 2 = some (nL g) ∧ f_L_layerOf μ (nI z) (nI q) 3 = some o.toInt64 := by
  have hz4 : z < 4 := by omega
  have hN := cf_le (bgn (fR r z)) 30 0
  obtain ⟨c, hc, hb, hcq⟩ := nth_ex (bgn (fR r z)) 30 q hq
  have hfirst : f_X2_firstOfLayer (enc r) z (nI q) = some (nI c) := X2_first_y hz4 hc hb hcq c FU 0 (by omega) (fu_lt (by omega))
  have hfc : fR r z c = true := by
    unfold bgn at hb
    cases hh : fR r z c with
    | true => rfl
    | false => rw [hh] at hb; cases hb
  obtain ⟨g1, g2⟩ := fst_ge (fun j => fR r z j == false) (30 - c) c
  have hE : ens r z c = fst (fun j => fR r z j == false) c (30 - c) := rfl
  have hin : ∀ i, c ≤ i → i < ens r z c → fR r z i = true := fun i h1 h2 => by
    have := fst_in _ (30 - c) c i h1 h2
    cases hh : fR r z i with
    | true => rfl
    | false => rw [hh] at this; cases this
  have hlt : c < ens r z c := by
    rw [hE, show 30 - c = (29 - c) + 1 by omega, fst_neg _ (by show (fR r z c == false) = false; rw [hfc]; rfl)]
    have := fst_ge (fun j => fR r z j == false) (29 - c) (c + 1)
    omega
  have hE30 : ens r z c ≤ 30 := by omega
  have hend : f_X2_endOfLayer (enc r) z (nI c) = some (nI (ens r z c)) := X2_end_l hz4 (30 - c) FU c (fu_lt (by omega)) (by omega)
  have hEf : ens r z c < 30 → fR r z (ens r z c) = false := fun h30 => by
    have h2 := fst_at (fun j => fR r z j == false) (30 - c) c (by rw [← hE]; omega)
    rw [← hE] at h2
    have h3 : (fR r z (ens r z c) == false) = true := h2
    cases hh : fR r z (ens r z c) with
    | false => rfl
    | true => rw [hh] at h3; cases h3
  have hgap : f_X2_gapBelow (enc r) z (nI (ens r z c)) = some (if fst (fR r z) (ens r z c) (30 - ens r z c) < 30 then nI (fst (fR r z) (ens r z c) (30 - ens r z c) - ens r z c) else 0) :=
    X2_gap_l hz4 (30 - ens r z c) FU (ens r z c) (fu_lt (by omega)) (by omega) (Nat.le_refl _)
  have hbno : ∀ i, c + 1 ≤ i → i < ens r z c → bgn (fR r z) i = false := fun i h1 h2 => by
    unfold bgn
    rw [hin (i - 1) (by omega) (by omega), decide_eq_true (by omega : 0 < i)]
    cases fR r z i <;> rfl
  have hcE : cf (bgn (fR r z)) 0 (ens r z c) = q + 1 := by
    rw [cf_flat (c := c + 1) (by omega) hbno, cf_step hb, hcq]
  obtain ⟨k1, k2⟩ := fst_ge (fR r z) (30 - ens r z c) (ens r z c)
  have k3 := fst_in (fR r z) (30 - ens r z c) (ens r z c)
  have k4 := fst_at (fR r z) (30 - ens r z c) (ens r z c)
  have hold : f_X2_oldestDay (enc r) z (nI c) (nI (ens r z c)) = some (itr (ost r z) c (ens r z c - c) 9999) := X2_old_l hz4 hE30 (ens r z c - c) FU c 9999 (fu_lt (by omega)) (by omega) hin
  have hole := (ost_le (r := r) (z := z) (ens r z c - c) c 9999).2
  have oj : ¬ oob (nI z) 4 := by rw [oob_nI (by omega)]; omega
  have cj : (nI z).toNatClampNeg = z := cl_nI (by omega)
  have key : ∀ (j : Nat) (v : Int32), j ≤ 3 → f_X2_numberOfLayer (enc r) z (nI c) (nI j) = some v → f_L_layerOf μ (nI z) (nI q) (nI j) = some v.toInt64 := fun j v hj h => by
    have hr : (0 : Int32) ≤ nI j ∧ nI j ≤ 3 := ⟨nI_pos' (by omega), by rw [show (3 : Int32) = nI 3 from rfl, le_nI (by omega) (by omega)]; exact hj⟩
    unfold f_L_layerOf f_X4_layerOf
    rw [X4_needSite_y (ν := cR r) hn hm hm4 hz, Option.bind_some, if_pos rfl, if_neg oj]
    simp only [cj, hn, oj, if_false]
    rw [hfirst, Option.bind_some, if_neg (m1_ne (by omega)), X4_needRange_y hr, Option.bind_some, if_pos rfl, h]
    rfl
  have kk0 : f_L_layerOf μ (nI z) (nI q) 0 = some (nL c) := by
    rw [← nI_L (by omega)]
    refine key 0 (nI c) (by omega) ?_
    unfold f_X2_numberOfLayer
    rw [hend]
    rfl
  have kk1 : f_L_layerOf μ (nI z) (nI q) 1 = some (nL (ens r z c - c)) := by
    rw [← nI_L (by omega)]
    refine key 1 (nI (ens r z c - c)) (by omega) ?_
    unfold f_X2_numberOfLayer
    rw [hend, ← sub_nI (by omega)]
    rfl
  have kk3 : f_L_layerOf μ (nI z) (nI q) 3 = some (itr (ost r z) c (ens r z c - c) 9999).toInt64 := by
    refine key 3 _ (by omega) ?_
    unfold f_X2_numberOfLayer
    rw [hend, Option.bind_some, if_neg (by decide), if_neg (by decide), if_neg (by decide), hold]
    rfl
  generalize hge : fst (fR r z) (ens r z c) (30 - ens r z c) = g at hgap k1 k2 k3 k4
  have hcg : cf (bgn (fR r z)) 0 g = q + 1 := by
    rw [cf_flat (c := ens r z c) k1 (fun i h1 h2 => by
      unfold bgn
      rw [k3 i h1 h2]
      rfl), hcE]
  have kk2 : f_L_layerOf μ (nI z) (nI q) 2 = some (nL (if g < 30 then g - ens r z c else 0)) := by
    rw [← nI_L (by split <;> omega)]
    refine key 2 (nI (if g < 30 then g - ens r z c else 0)) (by omega) ?_
    unfold f_X2_numberOfLayer
    rw [hend, Option.bind_some, if_neg (by decide), if_neg (by decide), if_pos (by decide), hgap]
    by_cases hg30 : g < 30
    · rw [if_pos hg30, if_pos hg30]; rfl
    · rw [if_neg hg30, if_neg hg30]; rfl
  refine ⟨c, ens r z c, (if g < 30 then g - ens r z c else 0), _, hlt, hE30, hb, hcq, hin, hEf, ?_, fun i h1 h2 => hole i h1 (by omega), kk0, kk1, kk2, kk3⟩
  by_cases hg30 : g < 30
  · rw [if_pos hg30]
    have hfg := k4 (by omega)
    have hgE : ens r z c < g := by
      by_cases e : g = ens r z c
      · exfalso
        have h3 := hEf (by omega)
        rw [← e, hfg] at h3
        cases h3
      · omega
    have e9 : ens r z c + (g - ens r z c) = g := by omega
    have hbg : bgn (fR r z) g = true := by
      unfold bgn
      rw [hfg, k3 (g - 1) (by omega) (by omega)]
      cases decide (0 < g) <;> rfl
    have hmo := cf_mono (bgn (fR r z)) (show g + 1 ≤ 30 by omega)
    rw [cf_step hbg, hcg] at hmo
    rw [e9]
    exact Or.inr ⟨by omega, hg30, hbg, hcg, by omega, fun i h1 h2 => k3 i h1 h2⟩
  · rw [if_neg hg30]
    have e : g = 30 := by omega
    subst e
    exact Or.inl ⟨rfl, hcg.symm, fun i h1 h2 => k3 i h1 h2⟩
