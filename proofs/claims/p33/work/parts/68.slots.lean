def kst (c : Nat) (k : Nat) (s : Mem) : Mem := va_up s 5 (upd (s 5) (205 * c + k) (s 1 k))
theorem kst_itr (c : Nat) : ∀ m k s, itr (kst c) k m s = va_up s 5 (fun j => if 205 * c + k ≤ j ∧ j < 205 * c + k + m then s 1 (j - 205 * c) else s 5 j)
  | 0, k, s => by
    have e : (fun j => if 205 * c + k ≤ j ∧ j < 205 * c + k + 0 then s 1 (j - 205 * c) else s 5 j) = s 5 := funext fun j => if_neg (by omega)
    show s = _
    rw [e, mu_self]
  | m + 1, k, s => by
    show itr (kst c) (k + 1) m (kst c k s) = _
    rw [kst_itr c m (k + 1)]
    unfold kst
    rw [mu_two, mu_at, mu_off _ _ (by omega : (1 : Nat) ≠ 5)]
    refine congrArg _ (funext fun j => ?_)
    by_cases h1 : 205 * c + (k + 1) ≤ j ∧ j < 205 * c + (k + 1) + m
    · rw [if_pos h1, if_pos (by omega)]
    · rw [if_neg h1]
      by_cases h2 : j = 205 * c + k
      · subst h2
        rw [pk_us, if_pos (by omega), Nat.add_sub_cancel_left]
      · rw [pk_un h2, if_neg (by omega)]
def vst (c : Nat) (k : Nat) (s : Mem) : Mem := va_up s 1 (upd (s 1) k (s 5 (205 * c + k)))
theorem vst_itr (c : Nat) : ∀ m k s, itr (vst c) k m s = va_up s 1 (fun j => if k ≤ j ∧ j < k + m then s 5 (205 * c + j) else s 1 j)
  | 0, k, s => by
    have e : (fun j => if k ≤ j ∧ j < k + 0 then s 5 (205 * c + j) else s 1 j) = s 1 := funext fun j => if_neg (by omega)
    show s = _
    rw [e, mu_self]
  | m + 1, k, s => by
    show itr (vst c) (k + 1) m (vst c k s) = _
    rw [vst_itr c m (k + 1)]
    unfold vst
    rw [mu_two, mu_at, mu_off s _ (by omega : (5 : Nat) ≠ 1)]
    refine congrArg _ (funext fun j => ?_)
    by_cases h1 : k + 1 ≤ j ∧ j < k + 1 + m
    · rw [if_pos h1, if_pos (by omega)]
    · rw [if_neg h1]
      by_cases h2 : j = k
      · subst h2
        rw [pk_us, if_pos (by omega)]
      · rw [pk_un h2, if_neg (by omega)]
theorem vst_bk {c : Nat} {s : Mem} (hZ : Zr (s 1)) : itr (vst c) 0 205 s = va_up s 1 (bk (s 5) c) := by
  rw [vst_itr]
  refine congrArg _ (funext fun j => ?_)
  unfold bk
  by_cases h : j < 205
  · rw [if_pos (by omega), if_pos h]
  · rw [if_neg (by omega), if_neg h, hZ j (by omega)]
theorem X5_save_l {c : Nat} (hc : c < 2) {s : Mem} {N : Nat} (hN : 205 < N) : fl_X5_save (nI c) N 2 s 0 0 = some ((itr (kst c) 0 205 s) 1 199, va_up (itr (kst c) 0 205 s) 6 (upd ((itr (kst c) 0 205 s) 6) c 1)) := by
  have hl := loop_itr (fun n (q : Mem) k => fl_X5_save (nI c) n 2 q 0 (nI k)) (kst c) (fun q => some (q 1 199, va_up q 6 (upd (q 6) c 1))) 205
    (fun n q => by
      have o2 : ¬ oob (nI c) 2 := by rw [oob_nI (by omega)]; omega
      show fb_X5_save_2 (nI c) (fl_X5_save (nI c) n) q 0 (nI 205) = _
      unfold fb_X5_save_2
      rw [if_pos (by decide), if_neg o2, cl_nI (by omega), mu_off _ _ (by omega : (1 : Nat) ≠ 6)]
      rfl)
    (fun n q k hk => by
      have hk2 : ¬ 205 ≤ k := by omega
      have hq2 : ¬ 410 ≤ 205 * c + k := by omega
      show fb_X5_save_2 (nI c) (fl_X5_save (nI c) n) q 0 (nI k) = _
      unfold fb_X5_save_2 kst
      simp (maxSteps := 2000000) (disch := omega) only [↓Lm1, L0, L1, L2, L3, L4, L5, L6, L7, L8, L9, L10, L11, L12, L14, L15, L16, L20, L21, L29, L30, L31, L32, L35, L45, L48, L50, L60, L68, L97, L99, L100, L101, L102, L112, L115, L116, L119, L120, L128, L140, L156, L196, L197, L198, L199, L200, L201, L202, L203, L204, L205, L255, L400, L410, L1000, L2665, L2870, L9999, L10000, L100000, L1000000, le_nI, lt_nI, eq_nI, oob_nI, cl_nI, sub_nI, add_nI, mul_nI, b2i_t2, b2i_f2, n10, n01, em1, em2, lm1, lm2, lm3, lm4, if_true, if_false, Option.bind_some, Nat.add_zero, Bool.false_eq_true, not_true, not_false_eq_true, hk2, hq2]) 205 N 0 s hN (by omega)
  exact hl
theorem X5_restore_l {c : Nat} (hc : c < 2) {s : Mem} (hZ : Zr (s 1)) {N : Nat} (hN : 205 < N) : fl_X5_restore (nI c) N 2 s 0 0 = some (bk (s 5) c 199, va_up (va_up s 1 (bk (s 5) c)) 0 (upd (s 0) 5 0)) := by
  have hl := loop_itr (fun n (q : Mem) k => fl_X5_restore (nI c) n 2 q 0 (nI k)) (vst c) (fun q => some (q 1 199, va_up q 0 (upd (q 0) 5 0))) 205
    (fun n q => by
      show fb_X5_restore_2 (nI c) (fl_X5_restore (nI c) n) q 0 (nI 205) = _
      unfold fb_X5_restore_2
      rw [if_pos (by decide), mu_off _ _ (by omega : (1 : Nat) ≠ 0)]
      rfl)
    (fun n q k hk => by
      have hk2 : ¬ 205 ≤ k := by omega
      have hq2 : ¬ 410 ≤ 205 * c + k := by omega
      show fb_X5_restore_2 (nI c) (fl_X5_restore (nI c) n) q 0 (nI k) = _
      unfold fb_X5_restore_2 vst
      simp (maxSteps := 2000000) (disch := omega) only [↓Lm1, L0, L1, L2, L3, L4, L5, L6, L7, L8, L9, L10, L11, L12, L14, L15, L16, L20, L21, L29, L30, L31, L32, L35, L45, L48, L50, L60, L68, L97, L99, L100, L101, L102, L112, L115, L116, L119, L120, L128, L140, L156, L196, L197, L198, L199, L200, L201, L202, L203, L204, L205, L255, L400, L410, L1000, L2665, L2870, L9999, L10000, L100000, L1000000, le_nI, lt_nI, eq_nI, oob_nI, cl_nI, sub_nI, add_nI, mul_nI, b2i_t2, b2i_f2, n10, n01, em1, em2, lm1, lm2, lm3, lm4, if_true, if_false, Option.bind_some, Nat.add_zero, Bool.false_eq_true, not_true, not_false_eq_true, hk2, hq2]) 205 N 0 s hN (by omega)
  rw [vst_bk hZ, mu_at, mu_off s _ (by omega : (0 : Nat) ≠ 1)] at hl
  exact hl
theorem X4_needSlot_y {j : Nat} (hj : j < 2) : f_X4_needSlot (nI j) = some 0 := by
  unfold f_X4_needSlot
  rw [if_neg (nI_pos (by omega)), if_pos (show nI j < (2 : Int32) from (lt_nI (b := 2) (by omega) (by omega)).mpr hj)]
theorem X4_needSlot_n {x : Int32} (h : x < 0 ∨ nI 2 ≤ x) : f_X4_needSlot x = some 3 := by
  unfold f_X4_needSlot
  by_cases h1 : x < 0
  · rw [if_pos h1]
  · rw [if_neg h1, if_neg (show ¬ x < (2 : Int32) from Int32.not_lt.mpr (h.resolve_left h1))]
theorem slot_y {j : Nat} (hj : j < 2) : f_X5_in (nI j).toInt64 0 1 = some 1 := by
  rw [show (1 : Int64) = (nI 2 - 1).toInt64 by decide]
  exact inM_yes hj (by omega)
theorem slot_n {x : Int32} (h : x < 0 ∨ nI 2 ≤ x) : f_X5_in x.toInt64 0 1 = some 0 := by
  rw [show (1 : Int64) = (nI 2 - 1).toInt64 by decide]
  exact inM_no (by omega) h
theorem call_save {μ ν : Mem} (a : Int32) (h : Rel μ ν) : Call [3] (f_X4_save μ a) (f_X5_save ν a) := by
  rcases in_cases a 2 (by omega) with ⟨j, hj, rfl⟩ | hx
  · obtain ⟨⟨hn, d, hg⟩, h2, h3, h4, ⟨c, f, p0, p1, p5, hc, hf, hst⟩, h6, h7⟩ := h
    have oj : ¬ oob (nI j) 2 := by rw [oob_nI (by omega)]; omega
    have hX : f_X4_save μ (nI j) = some (0, μ 0 199, va_up (va_up μ (17 + j) (μ 0)) 21 (upd (μ 21) j 1)) := by
      unfold f_X4_save
      have cj : (nI j).toNatClampNeg = j := cl_nI (by omega)
      rw [X4_needSlot_y hj, Option.bind_some, if_pos rfl]
      simp only [cj, oj, if_false, X0_copyFrom, Option.bind_some]
      rw [mu_off _ _ (by omega : (0 : Nat) ≠ 21), mu_off _ _ (by omega : (0 : Nat) ≠ 17 + j), mu_off _ _ (by omega : (21 : Nat) ≠ 17 + j)]
    have hY : f_X5_save ν (nI j) = some ((itr (kst j) 0 205 (rf ν 0)) 1 199, va_up (itr (kst j) 0 205 (rf ν 0)) 6 (upd ((itr (kst j) 0 205 (rf ν 0)) 6) j 1)) := by
      unfold f_X5_save
      rw [slot_y hj, Option.bind_some, if_neg i10]
      show fb_X5_save_1 (nI j) (fl_X5_save (nI j) 999999999) ν 0 0 = _
      rw [← X5_save_l (N := 999999999) hj (by omega)]
      exact ref_ok _
    refine ⟨0, _, _, _, _, hX, hY, Or.inl ⟨rfl, ?_, ?_⟩, ⟨⟨?_, d, ?_⟩, ?_, ?_, ?_, ⟨c, f, ?_, ?_, ?_, hc, hf, fun i hi => ?_⟩, fun s hs => ?_, ?_⟩⟩
    · rw [mu_off _ _ (by omega), kst_itr, mu_off _ _ (by omega), rf_0]
    · rw [kst_itr, mu_off _ _ (by omega), rf_o (by omega), hn, enc_hi (by omega)]
    · rw [mu_off _ _ (by omega), mu_off _ _ (by omega), mu_off _ _ (by omega), kst_itr, mu_off _ _ (by omega), rf_o (by omega)]
      exact hn
    · rw [mu_off _ _ (by omega), kst_itr, mu_off _ _ (by omega), rf_o (by omega)]
      exact hg
    · rw [mu_off _ _ (by omega), kst_itr, mu_off _ _ (by omega), rf_o (by omega)]
      exact h2
    · rw [mu_off _ _ (by omega), mu_off _ _ (by omega)]
      exact h3
    · rw [mu_off _ _ (by omega), kst_itr, mu_off _ _ (by omega), rf_o (by omega)]
      exact h4
    · rw [mu_off _ _ (by omega), mu_off _ _ (by omega)]; exact p0
    · rw [mu_off _ _ (by omega), mu_off _ _ (by omega)]; exact p1
    · rw [mu_off _ _ (by omega), kst_itr, mu_off _ _ (by omega), rf_n (by omega)]; exact p5
    · rw [mu_off _ _ (by omega : (4 : Nat) ≠ 6), kst_itr, mu_off _ _ (by omega : (4 : Nat) ≠ 5), rf_o (by omega)]
      show va_up (va_up μ _ _) 21 _ (3 + (f + i) % 14) = _ ∧ _
      rw [mu_off _ _ (by omega), mu_off _ _ (by omega)]
      exact hst i hi
    · have hs0 := h6 s hs
      show va_up (va_up μ _ _) 21 _ 21 s = _ ∧ (_ ∨ _ ∧ va_up (va_up μ _ _) 21 _ (17 + s) = _ ∧ _)
      rw [mu_at, mu_at, mu_off _ _ (by omega : (5 : Nat) ≠ 6), mu_off _ _ (by omega : (17 + s) ≠ 21), kst_itr, mu_off _ _ (by omega : (6 : Nat) ≠ 5), mu_at, rf_o (by omega), rf_o (by omega), rf_o (by omega)]
      by_cases e : s = j
      · subst e
        rw [pk_us, pk_us, mu_at]
        refine ⟨rfl, Or.inr ⟨rfl, ?_, ?_⟩⟩
        · rw [hn]
          refine congrArg enc (funext fun k => ?_)
          unfold bk
          by_cases hk : k < 205
          · rw [if_pos hk]
            show ν 1 k = if 205 * s + 0 ≤ 205 * s + k ∧ 205 * s + k < 205 * s + 0 + 205 then ν 1 (205 * s + k - 205 * s) else ν 5 (205 * s + k)
            rw [if_pos (by omega), Nat.add_sub_cancel_left]
          · rw [if_neg hk]; exact gd_Z hg k (by omega)
        · refine ⟨d, ?_⟩
          have e2 : bk (fun i => if 205 * s + 0 ≤ i ∧ i < 205 * s + 0 + 205 then ν 1 (i - 205 * s) else ν 5 i) s = ν 1 := by
            funext k
            unfold bk
            by_cases hk : k < 205
            · rw [if_pos hk]
              show (if 205 * s + 0 ≤ 205 * s + k ∧ 205 * s + k < 205 * s + 0 + 205 then ν 1 (205 * s + k - 205 * s) else ν 5 (205 * s + k)) = ν 1 k
              rw [if_pos (by omega), Nat.add_sub_cancel_left]
            · rw [if_neg hk]; exact (gd_Z hg k (by omega)).symm
          rw [e2]
          exact hg
      · rw [pk_un e, pk_un e, mu_off _ _ (by omega)]
        have e2 : bk (fun i => if 205 * j + 0 ≤ i ∧ i < 205 * j + 0 + 205 then ν 1 (i - 205 * j) else ν 5 i) s = bk (ν 5) s := by
          funext k
          unfold bk
          by_cases hk : k < 205
          · rw [if_pos hk, if_pos hk]
            show (if 205 * j + 0 ≤ 205 * s + k ∧ 205 * s + k < 205 * j + 0 + 205 then ν 1 (205 * s + k - 205 * j) else ν 5 (205 * s + k)) = ν 5 (205 * s + k)
            rw [if_neg (by omega)]
          · rw [if_neg hk, if_neg hk]
        rw [e2]
        exact hs0
    · rw [mu_off _ _ (by omega : (19 : Nat) ≠ 21), mu_off _ _ (by omega : (19 : Nat) ≠ 17 + j), mu_off _ _ (by omega : (7 : Nat) ≠ 6), mu_off _ _ (by omega : (0 : Nat) ≠ 6), kst_itr, mu_off _ _ (by omega : (7 : Nat) ≠ 5), mu_off _ _ (by omega : (0 : Nat) ≠ 5), rf_o (by omega), rf_n (by omega)]
      exact h7
  · refine ⟨3, 0, μ, 0, rf ν 1, ?_, ?_, Or.inr ⟨0, rfl, rf_0⟩, rel_rf h⟩
    · unfold f_X4_save
      rw [X4_needSlot_n hx]
      rfl
    · unfold f_X5_save
      rw [slot_n hx, Option.bind_some, if_pos rfl]
      show fb_X5_save_1 a (fl_X5_save a 999999999) ν 1 0 = _
      exact ref_no (t := 1) (by decide) _
theorem call_restore {μ ν : Mem} (a : Int32) (h : Rel μ ν) : Call [3, 2] (f_X4_restore μ a) (f_X5_restore ν a) := by
  rcases in_cases a 2 (by omega) with ⟨j, hj, rfl⟩ | hx
  · have oj : ¬ oob (nI j) 2 := by rw [oob_nI (by omega)]; omega
    have cj : (nI j).toNatClampNeg = j := cl_nI (by omega)
    have hR := h
    obtain ⟨⟨hn, d, hg⟩, h2, h3, h4, ⟨c, f, p0, p1, p5, hc, hf, hst⟩, h6, h7⟩ := h
    obtain ⟨s1, s2⟩ := h6 j hj
    rcases s2 with s2 | ⟨s2, s3, d', s4⟩
    · refine ⟨2, 0, μ, 0, rf ν 2, ?_, ?_, Or.inr ⟨1, rfl, rf_0⟩, rel_rf hR⟩
      · unfold f_X4_restore
        rw [X4_needSlot_y hj, Option.bind_some, if_pos rfl, if_neg oj]
        simp only [cj, s1, s2, if_true]
      · unfold f_X5_restore
        rw [slot_y hj, Option.bind_some, if_neg i10, if_neg oj]
        simp only [cj, s2, if_true]
        show fb_X5_restore_1 (nI j) (fl_X5_restore (nI j) 999999999) ν 2 0 = _
        exact ref_no (t := 2) (by decide) _
    · have s3' : μ (17 + j) = enc (bk (ν 5) j) := s3
      have hX : f_X4_restore μ (nI j) = some (0, bk (ν 5) j 199, va_up (va_up μ 20 (upd (upd (μ 20) 0 0) 1 0)) 0 (enc (bk (ν 5) j))) := by
        unfold f_X4_restore f_X1_forgetAll
        have n1 : ¬ (μ 21 j = 0) := by rw [s1, s2]; decide
        rw [X4_needSlot_y hj, Option.bind_some, if_pos rfl, if_neg oj]
        simp only [cj, n1, oj, if_false, X0_copyFrom, Option.bind_some]
        rw [mu_two, mu_at, mu_off _ _ (by omega : (0 : Nat) ≠ 20), mu_at, mu_off _ _ (by omega : (20 : Nat) ≠ 0), s3', enc_hi (by omega), mu_comm _ (by omega : (0 : Nat) ≠ 20)]
      have hY : f_X5_restore ν (nI j) = some (bk (ν 5) j 199, va_up (va_up (rf ν 0) 1 (bk (ν 5) j)) 0 (upd (rf ν 0 0) 5 0)) := by
        unfold f_X5_restore
        have n2 : ¬ (ν 6 j = 0) := by rw [s2]; decide
        rw [slot_y hj, Option.bind_some, if_neg i10, if_neg oj]
        simp only [cj, n2, if_false]
        show fb_X5_restore_1 (nI j) (fl_X5_restore (nI j) 999999999) ν 0 0 = _
        have hl := X5_restore_l (N := 999999999) (s := rf ν 0) hj (by rw [rf_o (by omega)]; exact gd_Z hg) (by omega)
        rw [rf_o (i := 5) (by omega)] at hl
        rw [← hl]
        exact ref_ok _
      refine ⟨0, _, _, _, _, hX, hY, Or.inl ⟨rfl, ?_, rfl⟩, ?_⟩
      · rw [mu_at, pk_un (by omega), rf_0]
      · have hR' : Rel (va_up μ 20 (upd (upd (μ 20) 0 0) 1 0)) (va_up (rf ν 0) 0 (upd (rf ν 0 0) 5 0)) := by
          refine ⟨?_, ?_, ?_, ?_, ⟨0, 0, ?_, ?_, ?_, by omega, by omega, fun j hj => absurd hj (Nat.not_lt_zero j)⟩, fun s hs => ?_, ?_⟩
          · rw [mu_off μ _ (by omega : (0 : Nat) ≠ 20), mu_off _ _ (by omega : (1 : Nat) ≠ 0), rf_o (by omega)]
            exact ⟨hn, d, hg⟩
          · rw [mu_off _ _ (by omega : (2 : Nat) ≠ 0), rf_o (by omega)]
            exact h2
          · rw [mu_off _ _ (by omega : (2 : Nat) ≠ 20)]
            exact h3
          · rw [mu_off _ _ (by omega : (3 : Nat) ≠ 0), rf_o (by omega)]
            exact h4
          · rw [mu_at, pk_un (by omega), pk_us]; rfl
          · rw [mu_at, pk_us]; rfl
          · rw [mu_at, pk_us]; rfl
          · have := h6 s hs
            show va_up μ 20 _ 21 s = _ ∧ (_ ∨ _ ∧ va_up μ 20 _ (17 + s) = _ ∧ _)
            rw [mu_off μ _ (by omega : (21 : Nat) ≠ 20), mu_off μ _ (by omega : (17 + s) ≠ 20), mu_off _ _ (by omega : (5 : Nat) ≠ 0), mu_off _ _ (by omega : (6 : Nat) ≠ 0), rf_o (by omega), rf_o (by omega)]
            exact this
          · rw [mu_off μ _ (by omega : (19 : Nat) ≠ 20), mu_off _ _ (by omega : (7 : Nat) ≠ 0), mu_at, pk_un (by omega), rf_o (by omega), rf_n (by omega)]
            exact h7
        rw [mu_comm _ (by omega : (1 : Nat) ≠ 0)]
        exact rel_now hR' s4
  · refine ⟨3, 0, μ, 0, rf ν 1, ?_, ?_, Or.inr ⟨0, rfl, rf_0⟩, rel_rf h⟩
    · unfold f_X4_restore
      rw [X4_needSlot_n hx]
      rfl
    · unfold f_X5_restore
      rw [slot_n hx, Option.bind_some, if_pos rfl]
      show fb_X5_restore_1 a (fl_X5_restore a 999999999) ν 1 0 = _
      exact ref_no (t := 1) (by decide) _
