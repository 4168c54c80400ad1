theorem mn_self (x : Int32) : mn x x = x := by
  unfold mn
  rw [if_pos (Int32.le_refl x)]
theorem mn_r {x y : Int32} (h : y ≤ x) : mn x y = y := by
  unfold mn
  rw [if_pos h]
theorem call_layerOf {μ ν : Mem} (a1 a2 a3 : Int32) (h : Rel μ ν) : CallQ μ [3, 1] (f_X4_layerOf μ a1 a2 a3) (f_X5_layerOf ν a1 a2 a3) := by
  obtain ⟨d, hg⟩ := h.1.2
  have hn : μ 0 = enc (ν 1) := h.1.1
  obtain ⟨m, hm, hm4⟩ := inv_196 hg.1
  have r1 : rf ν 0 1 = ν 1 := rf_o (i := 1) (by omega)
  have er : (f_X5_refused ν 0) = some (0, rf ν 0) := rfl
  have l1 : ∀ b3 t, fl_X5_layerOf a1 a2 b3 FU 1 ν t 0 0 0 0 = if t = 0 then fl_X5_layerOf a1 a2 b3 999999999 2 ν 1 0 0 0 0 else (f_X5_in b3.toInt64 (0 : Int64) (3 : Int64)).bind fun r10 => if r10 = 0 then fl_X5_layerOf a1 a2 b3 999999999 2 ν 2 0 0 0 0 else fl_X5_layerOf a1 a2 b3 999999999 2 ν 0 0 0 0 0 := fun _ _ => rfl
  rcases in_cases a1 m (by omega) with ⟨z, hz, rfl⟩ | hx
  · have oj : ¬ oob (nI z) 4 := by rw [oob_nI (by omega)]; omega
    have cj : (nI z).toNatClampNeg = z := cl_nI (by omega)
    have hz4 : z < 4 := by omega
    have hN := cf_le (bgn (fR (ν 1) z)) 30 0
    have st : (-1 : Int32) = nI (cf (bgn (fR (ν 1) z)) 0 0) - 1 := rfl
    rcases in_cases a2 (cf (bgn (fR (ν 1) z)) 0 30) (by omega) with ⟨q, hq, rfl⟩ | hx2
    · obtain ⟨c, hc, hb, hcq⟩ := nth_ex (bgn (fR (ν 1) z)) 30 q hq
      have hfirst : f_X2_firstOfLayer (enc (ν 1)) z (nI q) = some (nI c) := by
        have := X2_first_y hz4 hc hb hcq c FU 0 (by omega) (fu_lt (by omega))
        exact this
      have hfc : fR (ν 1) z c = true := by
        unfold bgn at hb
        cases hh : fR (ν 1) z c with
        | true => rfl
        | false => rw [hh] at hb; cases hb
      by_cases hr : (0 : Int32) ≤ a3 ∧ a3 ≤ 3
      · obtain ⟨j, hj, rfl⟩ := rng_nI (n := 3) (by omega) hr
        obtain ⟨g1, g2⟩ := fst_ge (fun j => fR (ν 1) z j == false) (30 - c) c
        have hE : ens (ν 1) z c = fst (fun j => fR (ν 1) z j == false) c (30 - c) := rfl
        have hin : ∀ i, c ≤ i → i < ens (ν 1) z c → fR (ν 1) z i = true := fun i h1 h2 => by
          have := fst_in _ (30 - c) c i h1 h2
          cases hh : fR (ν 1) z i with
          | true => rfl
          | false => rw [hh] at this; cases this
        have hlt : c < ens (ν 1) z c := by
          rw [hE, show 30 - c = (29 - c) + 1 by omega, fst_neg _ (by show (fR (ν 1) z c == false) = false; rw [hfc]; rfl)]
          have := fst_ge (fun j => fR (ν 1) z j == false) (29 - c) (c + 1)
          omega
        have hE30 : ens (ν 1) z c ≤ 30 := by omega
        have hend : f_X2_endOfLayer (enc (ν 1)) z (nI c) = some (nI (ens (ν 1) z c)) := X2_end_l hz4 (30 - c) FU c (fu_lt (by omega)) (by omega)
        have hbeh : f_X5_behind (ν 1) (nI z) (nI c) = some (nI (ens (ν 1) z c)) := X5_behind_l hz4 (30 - c) FU c (fu_lt (by omega)) (by omega)
        have hlay : f_X5_layerAt (ν 1) (nI z) (nI q) = some (nI c) := X5_layerAt hz4 hc hb hcq
        have key : ∃ v, f_X2_numberOfLayer (enc (ν 1)) z (nI c) (nI j) = some v ∧ f_X5_layerOf ν (nI z) (nI q) (nI j) = some (v, rf ν 0) := by
          have hY : f_X5_layerOf ν (nI z) (nI q) (nI j) = if nI j = 2 then (f_X5_countLayers (ν 1) (nI z)).bind (fun r24 => if r24 ≤ nI q + 1 then some (0, rf ν 0) else (f_X5_layerAt (ν 1) (nI z) (nI q + 1)).bind fun r27 => some (r27 - nI (ens (ν 1) z c), rf ν 0)) else some (if nI j = 0 then nI c else if nI j = 1 then nI (ens (ν 1) z c) - nI c else itr (ost (ν 1) z) c (ens (ν 1) z c - c) (ν 1 (35 * z + (5 + c))), rf ν 0) := by
            unfold f_X5_layerOf
            rw [X5_isSite_y hm hm4 hz, Option.bind_some, if_neg i10, X5_countLayers hz4, Option.bind_some, inM_yes hq (by omega), Option.bind_some, if_neg i10, l1, if_neg i10, X5_in_y hr (by decide) (by decide), Option.bind_some, if_neg i10]
            show fb_X5_layerOf_2 (nI z) (nI q) (nI j) (fl_X5_layerOf (nI z) (nI q) (nI j) 999999998) ν 0 0 0 0 0 = _
            unfold fb_X5_layerOf_2
            have o2 : ¬ oob (nI (35 * z + (5 + c))) 205 := by rw [oob_nI (by omega)]; omega
            have c2 : (nI (35 * z + (5 + c))).toNatClampNeg = 35 * z + (5 + c) := cl_nI (by omega)
            rw [er, Option.bind_some, if_pos rfl]
            simp only [r1, hlay, hbeh, Option.bind_some, X5_countLayers hz4, X5_cell, o2, c2, if_false]
            rw [X5_old_l (ν := rf ν 0) hz4 hE30 (ens (ν 1) z c - c) 999999998 c _ (by omega) (by omega), r1]
          have e1 : nI q + 1 = nI (q + 1) := add_nI q 1
          unfold f_X2_numberOfLayer
          rw [hend, Option.bind_some, hY]
          have : j = 0 ∨ j = 1 ∨ j = 2 ∨ j = 3 := by omega
          rcases this with e | e | e | e <;> subst e
          · exact ⟨_, rfl, rfl⟩
          · exact ⟨_, rfl, rfl⟩
          · rw [if_neg (by decide), if_neg (by decide), if_pos (by decide), if_pos (by decide)]
            have hgap : f_X2_gapBelow (enc (ν 1)) z (nI (ens (ν 1) z c)) = some (if fst (fR (ν 1) z) (ens (ν 1) z c) (30 - ens (ν 1) z c) < 30 then nI (fst (fR (ν 1) z) (ens (ν 1) z c) (30 - ens (ν 1) z c) - ens (ν 1) z c) else 0) :=
              X2_gap_l hz4 (30 - ens (ν 1) z c) FU (ens (ν 1) z c) (fu_lt (by omega)) (by omega) (Nat.le_refl _)
            have hbno : ∀ i, c + 1 ≤ i → i < ens (ν 1) z c → bgn (fR (ν 1) z) i = false := fun i h1 h2 => by
              unfold bgn
              rw [hin (i - 1) (by omega) (by omega), decide_eq_true (by omega : 0 < i)]
              cases fR (ν 1) z i <;> rfl
            have hcE : cf (bgn (fR (ν 1) z)) 0 (ens (ν 1) z c) = q + 1 := by
              rw [cf_flat (c := c + 1) (by omega) hbno, cf_step hb, hcq]
            obtain ⟨k1, k2⟩ := fst_ge (fR (ν 1) z) (30 - ens (ν 1) z c) (ens (ν 1) z c)
            have k3 := fst_in (fR (ν 1) z) (30 - ens (ν 1) z c) (ens (ν 1) z c)
            have k4 := fst_at (fR (ν 1) z) (30 - ens (ν 1) z c) (ens (ν 1) z c)
            generalize fst (fR (ν 1) z) (ens (ν 1) z c) (30 - ens (ν 1) z c) = g at hgap k1 k2 k3 k4
            have hcg : cf (bgn (fR (ν 1) z)) 0 g = q + 1 := by
              rw [cf_flat (c := ens (ν 1) z c) k1 (fun i h1 h2 => by
                unfold bgn
                rw [k3 i h1 h2]
                rfl), hcE]
            rw [hgap, Option.bind_some, X5_countLayers hz4, Option.bind_some, e1]
            by_cases hg30 : g < 30
            · have hfg := k4 (by omega)
              have hgE : ens (ν 1) z c < g := by
                by_cases e : g = ens (ν 1) z c
                · exfalso
                  have h2 := fst_at (fun j => fR (ν 1) z j == false) (30 - c) c (by rw [← hE]; omega)
                  rw [← hE, ← e] at h2
                  have h3 : (fR (ν 1) z g == false) = true := h2
                  rw [hfg] at h3
                  cases h3
                · omega
              have hbg : bgn (fR (ν 1) z) g = true := by
                unfold bgn
                rw [hfg, k3 (g - 1) (by omega) (by omega)]
                cases decide (0 < g) <;> rfl
              have hmo := cf_mono (bgn (fR (ν 1) z)) (show g + 1 ≤ 30 by omega)
              rw [cf_step hbg, hcg] at hmo
              rw [if_pos hg30, if_neg (fun x => by rw [le_nI (by omega) (by omega)] at x; omega), X5_layerAt hz4 hg30 hbg hcg, Option.bind_some, sub_nI k1]
              exact ⟨_, rfl, rfl⟩
            · have : g = 30 := by omega
              subst this
              rw [if_neg hg30, hcg, if_pos (Int32.le_refl _)]
              exact ⟨_, rfl, rfl⟩
          · rw [if_neg (by decide), if_neg (by decide), if_neg (by decide), if_neg (by decide), if_neg (by decide), if_neg (by decide)]
            have hold : f_X2_oldestDay (enc (ν 1)) z (nI c) (nI (ens (ν 1) z c)) = some (itr (ost (ν 1) z) c (ens (ν 1) z c - c) 9999) := X2_old_l hz4 hE30 (ens (ν 1) z c - c) FU c 9999 (fu_lt (by omega)) (by omega) hin
            obtain ⟨u, hu, _, hu2⟩ := inv_at hg.1 (bq_c hz4 hc)
            have hu9 : u ≤ 9999 := hu2
            have hv : itr (ost (ν 1) z) c (ens (ν 1) z c - c) 9999 = itr (ost (ν 1) z) c (ens (ν 1) z c - c) (ν 1 (35 * z + (5 + c))) := by
              obtain ⟨w, hw⟩ : ∃ w, ens (ν 1) z c - c = w + 1 := ⟨ens (ν 1) z c - c - 1, by omega⟩
              rw [hw]
              show itr (ost (ν 1) z) (c + 1) w (mn 9999 (ν 1 (35 * z + (5 + c)))) = itr (ost (ν 1) z) (c + 1) w (mn (ν 1 (35 * z + (5 + c))) (ν 1 (35 * z + (5 + c))))
              rw [mn_self, mn_r (by rw [hu]; exact (le_nI (b := 9999) (by omega) (by omega)).mpr hu9)]
            rw [hold, hv]
            exact ⟨_, rfl, rfl⟩
        obtain ⟨v, k1, k2⟩ := key
        refine q_ok (v := v) h ?_ k2
        unfold f_X4_layerOf
        rw [X4_needSite_y hn hm hm4 hz, Option.bind_some, if_pos rfl, if_neg oj]
        simp only [cj, hn, oj, if_false]
        rw [hfirst, Option.bind_some, if_neg (m1_ne (by omega)), X4_needRange_y hr, Option.bind_some, if_pos rfl, k1]
        rfl
      · refine q_no (k := 1) (i := 1) (v := 0) h rfl ?_ ?_
        · unfold f_X4_layerOf
          rw [X4_needSite_y hn hm hm4 hz, Option.bind_some, if_pos rfl, if_neg oj]
          simp only [cj, hn, oj, if_false]
          rw [hfirst, Option.bind_some, if_neg (m1_ne (by omega)), X4_needRange_n hr]
          rfl
        · unfold f_X5_layerOf
          rw [X5_isSite_y hm hm4 hz, Option.bind_some, if_neg i10, X5_countLayers hz4, Option.bind_some, inM_yes hq (by omega), Option.bind_some, if_neg i10, l1, if_neg i10, X5_in_n hr (by decide) (by decide), Option.bind_some, if_pos rfl]
          show fb_X5_layerOf_2 (nI z) (nI q) a3 (fl_X5_layerOf (nI z) (nI q) a3 999999998) ν 2 0 0 0 0 = _
          exact ref_no (t := 2) (by decide) _
    · refine q_no (k := 3) (i := 0) (v := 0) h rfl ?_ ?_
      · unfold f_X4_layerOf
        have hf := X2_first_n hz4 hx2 30 FU 0 (by omega) (fu_lt (by omega))
        have hf' : f_X2_firstOfLayer (enc (ν 1)) z a2 = some (-1) := hf
        rw [X4_needSite_y hn hm hm4 hz, Option.bind_some, if_pos rfl, if_neg oj]
        simp only [cj, hn, oj, if_false]
        rw [hf', Option.bind_some, if_pos rfl]
      · unfold f_X5_layerOf
        rw [X5_isSite_y hm hm4 hz, Option.bind_some, if_neg i10, X5_countLayers hz4, Option.bind_some, inM_no (by omega) hx2, Option.bind_some, if_pos rfl, l1, if_pos rfl]
        show fb_X5_layerOf_2 (nI z) a2 a3 (fl_X5_layerOf (nI z) a2 a3 999999998) ν 1 0 0 0 0 = _
        exact ref_no (t := 1) (by decide) _
  · refine q_no (k := 3) (i := 0) (v := 0) h rfl ?_ ?_
    · unfold f_X4_layerOf
      rw [X4_needSite_n hn hm hx]
      rfl
    · unfold f_X5_layerOf
      rw [X5_isSite_n hm hm4 hx, Option.bind_some, if_pos rfl, l1, if_pos rfl]
      show fb_X5_layerOf_2 a1 a2 a3 (fl_X5_layerOf a1 a2 a3 999999998) ν 1 0 0 0 0 = _
      exact ref_no (t := 1) (by decide) _
