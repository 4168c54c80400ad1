/-! runScript -/
theorem tens_l {N : Nat} (hN : N < 1000) : f_X5_tens (nI N) = some (itr (fun _ (v : Int64) => v * 10) 0 N 1) := by
  have hl := loop_itr (fun n (v : Int64) k => fl_X5_tens (nI N) n v (nI k)) (fun _ v => v * 10) (fun v => some v) N
    (fun n v => by
      show fb_X5_tens_1 (nI N) (fl_X5_tens (nI N) n) v (nI N) = _
      unfold fb_X5_tens_1
      rw [if_pos (Int32.le_refl _)])
    (fun n v k hk => by
      have hNk : ¬ nI N ≤ nI k := fun x => by rw [le_nI (by omega) (by omega)] at x; omega
      have e1 : nI k + 1 = nI (k + 1) := add_nI k 1
      show fb_X5_tens_1 (nI N) (fl_X5_tens (nI N) n) v (nI k) = _
      unfold fb_X5_tens_1
      rw [if_neg hNk, e1]) N FU 0 1 (fu_lt (by omega)) (by omega)
  exact hl
theorem itr_ten : ∀ m k a, itr (fun _ (v : Int64) => v * 10) k m (lN a) = lN (a * 10 ^ m)
  | 0, k, a => by rw [Nat.pow_zero, Nat.mul_one]; rfl
  | m + 1, k, a => by
    show itr _ (k + 1) m (lN a * 10) = _
    rw [show lN a * 10 = lN (a * 10) from lN_mul a 10, itr_ten m (k + 1), Nat.pow_succ, Nat.mul_assoc, Nat.mul_comm (10 ^ m) 10]
theorem X5_tens {N : Nat} (hN : N < 1000) : f_X5_tens (nI N) = some (lN (10 ^ N)) := by
  rw [tens_l hN, show (1 : Int64) = lN 1 from rfl, itr_ten, Nat.one_mul]
theorem lim_l {n : Nat} {a2 : Int64} {μ : Mem} (hn : n ≤ 3) : ∀ m k N (v : Nat), m < N → k + m = n → fl_X4_runScript (nI n) a2 N 1 μ (lN v) (nI k) = fb_X4_runScript_1 (nI n) a2 (fl_X4_runScript (nI n) a2 (N - m - 1)) μ (lN (v * 1000000 ^ m)) (nI n)
  | 0, k, N + 1, v, _, hk => by
    have e : k = n := by omega
    subst e
    rw [Nat.pow_zero, Nat.mul_one]
    rfl
  | m + 1, k, N + 1, v, hN, hk => by
    have ih := lim_l (a2 := a2) (μ := μ) hn m (k + 1) N (v * 1000000) (by omega) (by omega)
    have hNk : ¬ nI n ≤ nI k := fun x => by rw [le_nI (by omega) (by omega)] at x; omega
    have e1 : nI k + 1 = nI (k + 1) := add_nI k 1
    have e2 : lN v * 1000000 = lN (v * 1000000) := lN_mul v 1000000
    show fb_X4_runScript_1 (nI n) a2 (fl_X4_runScript (nI n) a2 N) μ (lN v) (nI k) = _
    unfold fb_X4_runScript_1
    rw [if_neg hNk, e1, e2, ih]
    rw [Nat.pow_succ, Nat.mul_assoc, Nat.mul_comm 1000000, show N - m - 1 = N + 1 - (m + 1) - 1 by omega]
    rfl
theorem grp_l {n i : Nat} {a2 : Int64} (hn : n ≤ 3) : ∀ m k N (v : Nat), m < N → k = i + m → k < 100 → v < 2 ^ 63 → fl_X4_scriptGroup (nI n) a2 (nI i) N (lN v) (nI k) = some (nI (v / 1000000 ^ m % 1000000))
  | 0, k, N + 1, v, _, hk, hk2, hv => by
    rw [show k = i from hk]
    have e : lN v - lN v / 1000000 * 1000000 = lN (v % 1000000) := pk_lRem (b := 1000000) hv (by omega) (by omega)
    show fb_X4_scriptGroup_1 (nI n) a2 (nI i) (fl_X4_scriptGroup (nI n) a2 (nI i) N) (lN v) (nI i) = _
    unfold fb_X4_scriptGroup_1
    rw [if_pos (by exact Int32.le_refl _), e, lN_i, Nat.pow_zero, Nat.div_one]
  | m + 1, k, N + 1, v, hN, hk, hk2, hv => by
    obtain ⟨k', rfl⟩ : ∃ k', k = k' + 1 := ⟨k - 1, by omega⟩
    have hNk : ¬ nI (k' + 1) ≤ nI i := fun x => by rw [le_nI (by omega) (by omega)] at x; omega
    have e1 : nI (k' + 1) + -1 = nI k' := pk_m1 k'
    have e2 : lN v / 1000000 = lN (v / 1000000) := pk_lDiv (b := 1000000) hv (by omega) (by omega)
    have ih := grp_l (a2 := a2) (n := n) (i := i) hn m k' N (v / 1000000) (by omega) (by omega) (by omega) (by omega)
    show fb_X4_scriptGroup_1 (nI n) a2 (nI i) (fl_X4_scriptGroup (nI n) a2 (nI i) N) (lN v) (nI (k' + 1)) = _
    unfold fb_X4_scriptGroup_1
    rw [if_neg hNk, e1, e2, ih, Nat.div_div_eq_div_mul, Nat.pow_succ, Nat.mul_comm 1000000]
theorem X4_group {n i v : Nat} (hn : n ≤ 3) (hi : i < n) (hv : v < 2 ^ 63) : f_X4_scriptGroup (nI n) (lN v) (nI i) = some (nI (v / 1000000 ^ (n - 1 - i) % 1000000)) := by
  unfold f_X4_scriptGroup
  obtain ⟨n', rfl⟩ : ∃ n', n = n' + 1 := ⟨n - 1, by omega⟩
  rw [nI_m1]
  exact grp_l (by omega) (n' - i) n' FU v (fu_lt (by omega)) (by omega) (by omega) hv
theorem sc_l {n v d0 : Nat} {μ ν : Mem} (hn : n ≤ 3) (hv : v < 2 ^ 63) : ∀ m k N N' d (r : Row), m < N → m < N' → k + m = n → gd 9999 d r →
    ∃ (a : Int32) (Q : Row) (Q' : Row), fl_X4_runScript (nI n) (lN v) N 2 (va_up μ 1 (enc r)) 0 (nI k) = some (0, a, va_up μ 1 Q') ∧ fl_X5_runScript (nI n) (lN v) N' 2 (va_up ν 2 r) 0 (nI k) = some (a, va_up ν 2 Q) ∧ Zr Q
  | 0, k, N + 1, N' + 1, d, r, _, _, hk, h => by
    have e : k = n := by omega
    subst e
    refine ⟨-1, r, enc r, ?_, ?_, gd_Z h⟩
    · show fb_X4_runScript_2 (nI k) (lN v) (fl_X4_runScript (nI k) (lN v) N) _ 0 (nI k) = _
      unfold fb_X4_runScript_2
      rw [if_pos (Int32.le_refl _)]
    · show fb_X5_runScript_2 (nI k) (lN v) (fl_X5_runScript (nI k) (lN v) N') _ 0 (nI k) = _
      unfold fb_X5_runScript_2
      rw [if_pos (Int32.le_refl _)]
  | m + 1, k, N + 1, N' + 1, d, r, hN, hN', hk, h => by
    have hNk : ¬ nI n ≤ nI k := fun x => by rw [le_nI (by omega) (by omega)] at x; omega
    have e1 : nI k + 1 = nI (k + 1) := add_nI k 1
    have hg : v / 1000000 ^ (n - 1 - k) % 1000000 < 1000000 := Nat.mod_lt _ (by omega)
    obtain ⟨q, r', d', h1, h2, h3⟩ := cm_command (μ := μ) (ν := ν) hg h
    have ek : (6 : Int32) * (nI n - 1 - nI k) = nI (6 * (n - 1 - k)) := by
      obtain ⟨n', rfl⟩ : ∃ n', n = n' + 1 := ⟨n - 1, by omega⟩
      rw [nI_m1, sub_nI (by omega), show (6 : Int32) = nI 6 from rfl, mul_nI]
      rfl
    have ht0 : ¬ lN (10 ^ (6 * (n - 1 - k))) = 0 := by
      have : n - 1 - k = 0 ∨ n - 1 - k = 1 ∨ n - 1 - k = 2 := by omega
      rcases this with e | e | e <;> rw [e] <;> decide
    have htg : (lN v / lN (10 ^ (6 * (n - 1 - k))) - lN v / lN (10 ^ (6 * (n - 1 - k))) / 1000000 * 1000000).toInt32 = nI (v / 1000000 ^ (n - 1 - k) % 1000000) := by
      have hp3 : (1000000 : Nat) ^ (n - 1 - k) = 10 ^ (6 * (n - 1 - k)) := by
        have : n - 1 - k = 0 ∨ n - 1 - k = 1 ∨ n - 1 - k = 2 := by omega
        rcases this with e | e | e <;> rw [e] <;> decide
      have hp : (0 : Nat) < 10 ^ (6 * (n - 1 - k)) := Nat.pow_pos (by omega)
      have hp2 : 10 ^ (6 * (n - 1 - k)) < 2 ^ 63 := by
        have : n - 1 - k = 0 ∨ n - 1 - k = 1 ∨ n - 1 - k = 2 := by omega
        rcases this with e | e | e <;> rw [e] <;> decide
      have hle : v / 10 ^ (6 * (n - 1 - k)) < 2 ^ 63 := Nat.lt_of_le_of_lt (Nat.div_le_self _ _) hv
      have e : lN (v / 10 ^ (6 * (n - 1 - k))) - lN (v / 10 ^ (6 * (n - 1 - k))) / 1000000 * 1000000 = lN (v / 10 ^ (6 * (n - 1 - k)) % 1000000) := pk_lRem (b := 1000000) hle (by omega) (by omega)
      rw [pk_lDiv hv hp hp2, e, lN_i, show (1000000 : Nat) ^ (n - 1 - k) = 10 ^ (6 * (n - 1 - k)) from hp3]
    have hX : fl_X4_runScript (nI n) (lN v) (N + 1) 2 (va_up μ 1 (enc r)) 0 (nI k) = if b2i q = 0 then some (0, nI k, va_up μ 1 (enc r')) else fl_X4_runScript (nI n) (lN v) N 2 (va_up μ 1 (enc r')) 0 (nI (k + 1)) := by
      show fb_X4_runScript_2 (nI n) (lN v) (fl_X4_runScript (nI n) (lN v) N) _ 0 (nI k) = _
      unfold fb_X4_runScript_2
      rw [if_neg hNk, X4_group hn (by omega) hv, Option.bind_some, h2, Option.bind_some, e1]
    have hY : fl_X5_runScript (nI n) (lN v) (N' + 1) 2 (va_up ν 2 r) 0 (nI k) = if b2i q = 0 then some (nI k, va_up ν 2 r') else fl_X5_runScript (nI n) (lN v) N' 2 (va_up ν 2 r') 0 (nI (k + 1)) := by
      show fb_X5_runScript_2 (nI n) (lN v) (fl_X5_runScript (nI n) (lN v) N') _ 0 (nI k) = _
      unfold fb_X5_runScript_2
      rw [if_neg hNk, ek, X5_tens (by omega), Option.bind_some, if_neg ht0, htg, h3, Option.bind_some, e1]
    rw [hX, hY]
    by_cases hq : b2i q = 0
    · rw [if_pos hq, if_pos hq]
      exact ⟨_, _, _, rfl, rfl, gd_Z h1⟩
    · rw [if_neg hq, if_neg hq]
      exact sc_l (d0 := d0) hn hv m (k + 1) N N' d' r' (by omega) (by omega) (by omega) h1
theorem lg_lt {a b : Int64} : (lg_cmp a b < 0) ↔ a < b := lg_cmp_lt a b
theorem call_runScript {μ ν : Mem} (a1 : Int32) (a2 : Int64) (h : Rel μ ν) : Call [1] (f_X4_runScript μ a1 a2) (f_X5_runScript ν a1 a2) := by
  obtain ⟨d, hg⟩ := h.1.2
  have hn := h.1.1
  unfold f_X4_runScript f_X5_runScript
  by_cases hr : (1 : Int32) ≤ a1 ∧ a1 ≤ 3
  · obtain ⟨n, hn3, rfl⟩ := rng_nI (n := 3) (by omega) ⟨Int32.le_trans (by decide) hr.1, hr.2⟩
    have hn1 : 1 ≤ n := by
      have := hr.1
      rw [show (1 : Int32) = nI 1 from rfl, le_nI (by omega) (by omega)] at this
      exact this
    have e6 : (6 : Int32) * nI n = nI (6 * n) := mul_nI 6 n
    have hn3' : n = 1 ∨ n = 2 ∨ n = 3 := by omega
    have hL : 1000000 ^ n = 10 ^ (6 * n) := by
      rcases hn3' with e | e | e <;> rw [e] <;> decide
    have hL0 : 1 ≤ 10 ^ (6 * n) := by
      rcases hn3' with e | e | e <;> rw [e] <;> decide
    have hL2 : 10 ^ (6 * n) < 2 ^ 63 := by
      have : n = 1 ∨ n = 2 ∨ n = 3 := by omega
      rcases this with e | e | e <;> rw [e] <;> decide
    have hl := lim_l (n := n) (a2 := a2) (μ := μ) hn3 n 0 FU 1 (fu_lt (by omega)) (by omega)
    rw [Nat.one_mul, hL] at hl
    have hl' : fl_X4_runScript (nI n) a2 FU 1 μ 1 0 = _ := hl
    have hT : lN (10 ^ (6 * n)) - 1 = lN (10 ^ (6 * n) - 1) := lN_sub (b := 1) hL0
    rw [X4_needRange_y hr, X5_in_y hr (by decide) (by decide), Option.bind_some, Option.bind_some, if_pos rfl, if_neg i10, hl', e6, X5_tens (by omega), Option.bind_some, X5_in, hT, Option.bind_some]
    unfold fb_X4_runScript_1
    rw [if_pos (Int32.le_refl _)]
    by_cases hneg : a2 < 0
    · rw [if_pos (lg_lt.mpr hneg), decide_eq_false (fun x => absurd x.1 (Int64.not_le.mpr hneg)), b2i_f, if_pos rfl]
      refine c_no (i := 0) h rfl rfl ?_
      show fb_X5_runScript_1 (nI n) a2 (fl_X5_runScript (nI n) a2 999999999) ν 1 0 = _
      exact ref_no (t := 1) (by decide) _
    · obtain ⟨v, hv, rfl⟩ := pk_lOf hneg
      rw [if_neg (fun x => hneg (lg_lt.mp x))]
      by_cases hlt : v < 10 ^ (6 * n)
      · have hc : lg_cmp (lN v) (lN (10 ^ (6 * n))) < 0 := lg_lt.mpr ((pk_lLT hv hL2).mpr hlt)
        have hc2 : (0 : Int64) ≤ lN v ∧ lN v ≤ lN (10 ^ (6 * n) - 1) := ⟨Int64.not_lt.mp hneg, (pk_lLE hv (by omega)).mpr (by omega)⟩
        rw [if_pos hc, decide_eq_true hc2, b2i_t, if_neg i10, X0_copyFrom, Option.bind_some]
        obtain ⟨a, Q, Q', q1, q2, q3⟩ := sc_l (d0 := 0) (μ := μ) (ν := rf ν 0) hn3 hv n 0 (FU - n - 1) 999999999 d (ν 1) (by unfold FU; omega) (by omega) (by omega) hg
        refine c_ok h q3 (by rw [hn]; exact q1) ?_
        show fb_X5_runScript_1 (nI n) (lN v) (fl_X5_runScript (nI n) (lN v) 999999999) ν 0 0 = _
        unfold fb_X5_runScript_1
        rw [ref_ok, cp5 h, Option.bind_some]
        exact q2
      · have hc : ¬ lg_cmp (lN v) (lN (10 ^ (6 * n))) < 0 := fun x => hlt ((pk_lLT hv hL2).mp (lg_lt.mp x))
        have hc2 : ¬ ((0 : Int64) ≤ lN v ∧ lN v ≤ lN (10 ^ (6 * n) - 1)) := fun x => by
          have := (pk_lLE hv (by omega)).mp x.2
          omega
        rw [if_neg hc, decide_eq_false hc2, b2i_f, if_pos rfl]
        refine c_no (i := 0) h rfl rfl ?_
        show fb_X5_runScript_1 (nI n) (lN v) (fl_X5_runScript (nI n) (lN v) 999999999) ν 1 0 = _
        exact ref_no (t := 1) (by decide) _
  · rw [X4_needRange_n hr, X5_in_n hr (by decide) (by decide), Option.bind_some, Option.bind_some, if_neg (by decide), if_pos rfl]
    refine c_no (i := 0) h rfl rfl ?_
    show fb_X5_runScript_1 a1 a2 (fl_X5_runScript a1 a2 999999999) ν 1 0 = _
    exact ref_no (t := 1) (by decide) _
/-! simulate -/
theorem sv_x {r : Row} {code a b c : Int32} {μ ν M : Mem} {Y : Option (Int32 × Mem)} {X Y2 : Option Mem} (ht : Tr r code a b c ν Y) (hM : ∀ x, va_up M 1 x = va_up μ 1 x) (hX : X = (f_X0_perform (enc r) code a b c).bind fun r2 => some (va_up M 1 r2.2)) (hY : Y2 = Y.bind fun r7 => some r7.2) : ∃ (r' : Row) (d : Nat), gd 9999 d r' ∧ X = some (va_up μ 1 (enc r')) ∧ Y2 = some (va_up ν 2 r') := by
  obtain ⟨q, v, r', d, h1, h2, h3, h4⟩ := ht
  exact ⟨r', d, h1, by rw [hX, h2, Option.bind_some, hM], by rw [hY, h4]; rfl⟩
theorem sv_2 {r : Row} {code a b c : Int32} {μ ν M M2 : Mem} {d : Nat} {Z : Option (Int32 × Row)} {X Y2 : Option Mem} (hg : gd 9999 d r) (hd : done r code a b c Z) (hM : ∀ x, va_up M 1 x = va_up μ 1 x) (hM2 : ∀ x, va_up M2 2 x = va_up ν 2 x) (hX : X = (f_X0_perform (enc r) code a b c).bind fun r2 => some (va_up M 1 r2.2)) (hY : Y2 = Z.bind fun r3 => if r3.1 < 0 then some (va_up M2 2 r3.2) else some (va_up M2 2 r3.2)) : ∃ (r' : Row) (d : Nat), gd 9999 d r' ∧ X = some (va_up μ 1 (enc r')) ∧ Y2 = some (va_up ν 2 r') := by
  obtain ⟨v, r', _, h2, h3, h4, d, h5⟩ := hd
  exact ⟨r', d, h5, by rw [hX, h2, Option.bind_some, hM], by rw [hY, h3, Option.bind_some, if_neg (Int32.not_lt.mpr h4), hM2]⟩
theorem qf_0_0 : (nI 0 = (0 : Int32)) = True := eq_true rfl
theorem qf_0_10 : (nI 0 = (10 : Int32)) = False := eq_false (by decide)
theorem qf_0_11 : (nI 0 = (11 : Int32)) = False := eq_false (by decide)
theorem qf_1_0 : (nI 1 = (0 : Int32)) = False := eq_false (by decide)
theorem qf_1_10 : (nI 1 = (10 : Int32)) = False := eq_false (by decide)
theorem qf_1_11 : (nI 1 = (11 : Int32)) = False := eq_false (by decide)
theorem qf_2_0 : (nI 2 = (0 : Int32)) = False := eq_false (by decide)
theorem qf_2_10 : (nI 2 = (10 : Int32)) = False := eq_false (by decide)
theorem qf_2_11 : (nI 2 = (11 : Int32)) = False := eq_false (by decide)
theorem qf_3_0 : (nI 3 = (0 : Int32)) = False := eq_false (by decide)
theorem qf_3_10 : (nI 3 = (10 : Int32)) = False := eq_false (by decide)
theorem qf_3_11 : (nI 3 = (11 : Int32)) = False := eq_false (by decide)
theorem qf_4_0 : (nI 4 = (0 : Int32)) = False := eq_false (by decide)
theorem qf_4_10 : (nI 4 = (10 : Int32)) = False := eq_false (by decide)
theorem qf_4_11 : (nI 4 = (11 : Int32)) = False := eq_false (by decide)
theorem qf_5_0 : (nI 5 = (0 : Int32)) = False := eq_false (by decide)
theorem qf_5_10 : (nI 5 = (10 : Int32)) = False := eq_false (by decide)
theorem qf_5_11 : (nI 5 = (11 : Int32)) = False := eq_false (by decide)
theorem qf_6_0 : (nI 6 = (0 : Int32)) = False := eq_false (by decide)
theorem qf_6_10 : (nI 6 = (10 : Int32)) = False := eq_false (by decide)
theorem qf_6_11 : (nI 6 = (11 : Int32)) = False := eq_false (by decide)
theorem qf_7_0 : (nI 7 = (0 : Int32)) = False := eq_false (by decide)
theorem qf_7_10 : (nI 7 = (10 : Int32)) = False := eq_false (by decide)
theorem qf_7_11 : (nI 7 = (11 : Int32)) = False := eq_false (by decide)
theorem qf_8_0 : (nI 8 = (0 : Int32)) = False := eq_false (by decide)
theorem qf_8_10 : (nI 8 = (10 : Int32)) = False := eq_false (by decide)
theorem qf_8_11 : (nI 8 = (11 : Int32)) = False := eq_false (by decide)
theorem qf_9_0 : (nI 9 = (0 : Int32)) = False := eq_false (by decide)
theorem qf_9_10 : (nI 9 = (10 : Int32)) = False := eq_false (by decide)
theorem qf_9_11 : (nI 9 = (11 : Int32)) = False := eq_false (by decide)
theorem qf_10_0 : (nI 10 = (0 : Int32)) = False := eq_false (by decide)
theorem qf_10_1 : (nI 10 = (1 : Int32)) = False := eq_false (by decide)
theorem qf_10_2 : (nI 10 = (2 : Int32)) = False := eq_false (by decide)
theorem qf_10_3 : (nI 10 = (3 : Int32)) = False := eq_false (by decide)
theorem qf_10_4 : (nI 10 = (4 : Int32)) = False := eq_false (by decide)
theorem qf_10_5 : (nI 10 = (5 : Int32)) = False := eq_false (by decide)
theorem qf_10_6 : (nI 10 = (6 : Int32)) = False := eq_false (by decide)
theorem qf_10_7 : (nI 10 = (7 : Int32)) = False := eq_false (by decide)
theorem qf_10_8 : (nI 10 = (8 : Int32)) = False := eq_false (by decide)
theorem qf_10_9 : (nI 10 = (9 : Int32)) = False := eq_false (by decide)
theorem qf_10_10 : (nI 10 = (10 : Int32)) = True := eq_true rfl
theorem qf_10_11 : (nI 10 = (11 : Int32)) = False := eq_false (by decide)
theorem qf_11_0 : (nI 11 = (0 : Int32)) = False := eq_false (by decide)
theorem qf_11_1 : (nI 11 = (1 : Int32)) = False := eq_false (by decide)
theorem qf_11_2 : (nI 11 = (2 : Int32)) = False := eq_false (by decide)
theorem qf_11_3 : (nI 11 = (3 : Int32)) = False := eq_false (by decide)
theorem qf_11_4 : (nI 11 = (4 : Int32)) = False := eq_false (by decide)
theorem qf_11_5 : (nI 11 = (5 : Int32)) = False := eq_false (by decide)
theorem qf_11_6 : (nI 11 = (6 : Int32)) = False := eq_false (by decide)
theorem qf_11_7 : (nI 11 = (7 : Int32)) = False := eq_false (by decide)
theorem qf_11_8 : (nI 11 = (8 : Int32)) = False := eq_false (by decide)
theorem qf_11_9 : (nI 11 = (9 : Int32)) = False := eq_false (by decide)
theorem qf_11_10 : (nI 11 = (10 : Int32)) = False := eq_false (by decide)
theorem qf_11_11 : (nI 11 = (11 : Int32)) = True := eq_true rfl
theorem qf_12_0 : (nI 12 = (0 : Int32)) = False := eq_false (by decide)
theorem qf_12_1 : (nI 12 = (1 : Int32)) = False := eq_false (by decide)
theorem qf_12_2 : (nI 12 = (2 : Int32)) = False := eq_false (by decide)
theorem qf_12_3 : (nI 12 = (3 : Int32)) = False := eq_false (by decide)
theorem qf_12_4 : (nI 12 = (4 : Int32)) = False := eq_false (by decide)
theorem qf_12_5 : (nI 12 = (5 : Int32)) = False := eq_false (by decide)
theorem qf_12_6 : (nI 12 = (6 : Int32)) = False := eq_false (by decide)
theorem qf_12_7 : (nI 12 = (7 : Int32)) = False := eq_false (by decide)
theorem qf_12_8 : (nI 12 = (8 : Int32)) = False := eq_false (by decide)
theorem qf_12_9 : (nI 12 = (9 : Int32)) = False := eq_false (by decide)
theorem qf_12_10 : (nI 12 = (10 : Int32)) = False := eq_false (by decide)
theorem qf_12_11 : (nI 12 = (11 : Int32)) = False := eq_false (by decide)
theorem qf_13_0 : (nI 13 = (0 : Int32)) = False := eq_false (by decide)
theorem qf_13_1 : (nI 13 = (1 : Int32)) = False := eq_false (by decide)
theorem qf_13_2 : (nI 13 = (2 : Int32)) = False := eq_false (by decide)
theorem qf_13_3 : (nI 13 = (3 : Int32)) = False := eq_false (by decide)
theorem qf_13_4 : (nI 13 = (4 : Int32)) = False := eq_false (by decide)
theorem qf_13_5 : (nI 13 = (5 : Int32)) = False := eq_false (by decide)
theorem qf_13_6 : (nI 13 = (6 : Int32)) = False := eq_false (by decide)
theorem qf_13_7 : (nI 13 = (7 : Int32)) = False := eq_false (by decide)
theorem qf_13_8 : (nI 13 = (8 : Int32)) = False := eq_false (by decide)
theorem qf_13_9 : (nI 13 = (9 : Int32)) = False := eq_false (by decide)
theorem qf_13_10 : (nI 13 = (10 : Int32)) = False := eq_false (by decide)
theorem qf_13_11 : (nI 13 = (11 : Int32)) = False := eq_false (by decide)
theorem qf_14_0 : (nI 14 = (0 : Int32)) = False := eq_false (by decide)
theorem qf_14_1 : (nI 14 = (1 : Int32)) = False := eq_false (by decide)
theorem qf_14_2 : (nI 14 = (2 : Int32)) = False := eq_false (by decide)
theorem qf_14_3 : (nI 14 = (3 : Int32)) = False := eq_false (by decide)
theorem qf_14_4 : (nI 14 = (4 : Int32)) = False := eq_false (by decide)
theorem qf_14_5 : (nI 14 = (5 : Int32)) = False := eq_false (by decide)
theorem qf_14_6 : (nI 14 = (6 : Int32)) = False := eq_false (by decide)
theorem qf_14_7 : (nI 14 = (7 : Int32)) = False := eq_false (by decide)
theorem qf_14_8 : (nI 14 = (8 : Int32)) = False := eq_false (by decide)
theorem qf_14_9 : (nI 14 = (9 : Int32)) = False := eq_false (by decide)
theorem qf_14_10 : (nI 14 = (10 : Int32)) = False := eq_false (by decide)
theorem qf_14_11 : (nI 14 = (11 : Int32)) = False := eq_false (by decide)
theorem qf_15_0 : (nI 15 = (0 : Int32)) = False := eq_false (by decide)
theorem qf_15_1 : (nI 15 = (1 : Int32)) = False := eq_false (by decide)
theorem qf_15_2 : (nI 15 = (2 : Int32)) = False := eq_false (by decide)
theorem qf_15_3 : (nI 15 = (3 : Int32)) = False := eq_false (by decide)
theorem qf_15_4 : (nI 15 = (4 : Int32)) = False := eq_false (by decide)
theorem qf_15_5 : (nI 15 = (5 : Int32)) = False := eq_false (by decide)
theorem qf_15_6 : (nI 15 = (6 : Int32)) = False := eq_false (by decide)
theorem qf_15_7 : (nI 15 = (7 : Int32)) = False := eq_false (by decide)
theorem qf_15_8 : (nI 15 = (8 : Int32)) = False := eq_false (by decide)
theorem qf_15_9 : (nI 15 = (9 : Int32)) = False := eq_false (by decide)
theorem qf_15_10 : (nI 15 = (10 : Int32)) = False := eq_false (by decide)
theorem qf_15_11 : (nI 15 = (11 : Int32)) = False := eq_false (by decide)
set_option maxHeartbeats 2000000 in
theorem sv_stir {g d : Nat} {r : Row} {μ ν : Mem} (hg : g < 2147483648) (h : gd 9999 d r) : ∃ (r' : Row) (d : Nat), gd 9999 d r' ∧ f_X4_simulatedTurn (va_up μ 1 (enc r)) (nI g) = some (va_up μ 1 (enc r')) ∧ f_X5_stir (va_up ν 2 r) (nI g) = some (va_up ν 2 r') := by
  have dv16 : nI g / 16 = nI (g / 16) := pk_div (d := 16) (by omega) (by omega) (by omega)
  have eq : nI g - nI (g / 16) * 16 = nI (g % 16) := by rw [← dv16]; exact pk_rem (d := 16) (by omega) (by omega) (by omega)
  have dv4 : nI (g / 16) / 4 = nI (g / 16 / 4) := pk_div (d := 4) (by omega) (by omega) (by omega)
  have dv32 : nI (g / 16) / 32 = nI (g / 16 / 32) := pk_div (d := 32) (by omega) (by omega) (by omega)
  have dv128 : nI (g / 16) / 128 = nI (g / 16 / 128) := pk_div (d := 128) (by omega) (by omega) (by omega)
  have d1616 : nI (g / 16) / 16 = nI (g / 16 / 16) := pk_div (d := 16) (by omega) (by omega) (by omega)
  have m4 : nI (g / 16) - nI (g / 16 / 4) * 4 = nI (g / 16 % 4) := by rw [← dv4]; exact pk_rem (d := 4) (by omega) (by omega) (by omega)
  have m16 : nI (g / 16) - nI (g / 16 / 16) * 16 = nI (g / 16 % 16) := by rw [← d1616]; exact pk_rem (d := 16) (by omega) (by omega) (by omega)
  have m430 : nI (g / 16 / 4) - nI (g / 16 / 4) / 30 * 30 = nI (g / 16 / 4 % 30) := pk_rem (d := 30) (by omega) (by omega) (by omega)
  have p430 : (1 : Int32) + nI (g / 16 / 4 % 30) = nI (1 + g / 16 / 4 % 30) := add_nI 1 _
  have M1 : ∀ x, va_up (va_up μ 1 (enc r)) 1 x = va_up μ 1 x := fun x => mu_two _ _ _ _
  have M2 : ∀ x, va_up (va_up ν 2 r) 2 x = va_up ν 2 x := fun x => mu_two _ _ _ _
  have hdd : ∃ (r' : Row) (d : Nat), gd 9999 d r' ∧ fl_X4_simulatedTurn (nI g) FU (va_up μ 1 (enc r)) (nI (g / 16)) = some (va_up μ 1 (enc r')) ∧ fl_X5_stir (nI g) FU (va_up ν 2 r) (nI (g / 16)) = some (va_up ν 2 r') := by
    show ∃ (r' : Row) (d : Nat), gd 9999 d r' ∧ fb_X4_simulatedTurn_1 (nI g) (fl_X4_simulatedTurn (nI g) 999999999) (va_up μ 1 (enc r)) (nI (g / 16)) = some (va_up μ 1 (enc r')) ∧ fb_X5_stir_1 (nI g) (fl_X5_stir (nI g) 999999999) (va_up ν 2 r) (nI (g / 16)) = some (va_up ν 2 r')
    unfold fb_X4_simulatedTurn_1 fb_X5_stir_1
    rw [mu_at]
    exact sv_x (tr_days _ _ _ h) M1 rfl rfl
  unfold f_X4_simulatedTurn f_X5_stir
  rw [dv16, eq, dv4, d1616, m4, m16, m430, p430, mu_at, mu_at]
  have hq : g % 16 = 0 ∨ g % 16 = 1 ∨ g % 16 = 2 ∨ g % 16 = 3 ∨ g % 16 = 4 ∨ g % 16 = 5 ∨ g % 16 = 6 ∨ g % 16 = 7 ∨ g % 16 = 8 ∨ g % 16 = 9 ∨ g % 16 = 10 ∨ g % 16 = 11 ∨ g % 16 = 12 ∨ g % 16 = 13 ∨ g % 16 = 14 ∨ g % 16 = 15 := by omega
  rcases hq with hq | hq | hq | hq | hq | hq | hq | hq | hq | hq | hq | hq | hq | hq | hq | hq <;> rw [hq]
  · simp only [qf_0_0, if_true, if_false]
    rcases site_cases h with ⟨hl, h4⟩ | ⟨hd, m, hm, h4⟩
    · rw [show (196 : Int32).toNatClampNeg = 196 from rfl, h4, if_pos (by decide)]
      exact ⟨r, d, h, by rw [hl.2, Option.bind_some, M1], rfl⟩
    · rw [show (196 : Int32).toNatClampNeg = 196 from rfl, h4, if_neg (fun x => by rw [show (4 : Int32) = nI 4 from rfl, le_nI (by omega) (by omega)] at x; omega)]
      exact sv_2 h hd M1 M2 rfl rfl
  · simp only [qf_1_0, qf_1_1, if_true, if_false]
    exact sv_x (tr_tube _ h (by omega) (by omega)) M1 rfl rfl
  · simp only [qf_2_0, qf_2_1, qf_2_2, if_true, if_false]
    exact sv_x (tr_pipe _ h (by omega)) M1 rfl rfl
  · simp only [qf_3_0, qf_3_1, qf_3_2, qf_3_3, if_true, if_false]
    exact sv_x (tr_fence _ _ h) M1 rfl rfl
  · simp only [qf_4_0, qf_4_1, qf_4_2, qf_4_3, qf_4_4, if_true, if_false]
    exact sv_x (tr_shovel _ h) M1 rfl rfl
  · simp only [qf_5_0, qf_5_1, qf_5_2, qf_5_3, qf_5_4, qf_5_5, if_true, if_false]
    exact sv_x (tr_set _ _ h) M1 rfl rfl
  · simp only [qf_6_0, qf_6_1, qf_6_2, qf_6_3, qf_6_4, qf_6_5, qf_6_6, if_true, if_false]
    exact sv_2 h (winter_done h) M1 M2 rfl rfl
  · simp only [qf_7_0, qf_7_1, qf_7_2, qf_7_3, qf_7_4, qf_7_5, qf_7_6, qf_7_7, if_true, if_false]
    exact hdd
  · simp only [qf_8_0, qf_8_1, qf_8_2, qf_8_3, qf_8_4, qf_8_5, qf_8_6, qf_8_7, qf_8_8, if_true, if_false]
    exact hdd
  · simp only [qf_9_0, qf_9_1, qf_9_2, qf_9_3, qf_9_4, qf_9_5, qf_9_6, qf_9_7, qf_9_8, qf_9_9, if_true, if_false]
    exact hdd
  · simp only [qf_10_0, qf_10_1, qf_10_2, qf_10_3, qf_10_4, qf_10_5, qf_10_6, qf_10_7, qf_10_8, qf_10_9, qf_10_10, if_true, if_false]
    exact hdd
  · simp only [qf_11_0, qf_11_1, qf_11_2, qf_11_3, qf_11_4, qf_11_5, qf_11_6, qf_11_7, qf_11_8, qf_11_9, qf_11_10, qf_11_11, if_true, if_false]
    exact hdd
  · simp only [qf_12_0, qf_12_1, qf_12_2, qf_12_3, qf_12_4, qf_12_5, qf_12_6, qf_12_7, qf_12_8, qf_12_9, qf_12_10, qf_12_11, if_true, if_false]
    exact sv_x (tr_days _ _ _ h) M1 rfl rfl
  · simp only [qf_13_0, qf_13_1, qf_13_2, qf_13_3, qf_13_4, qf_13_5, qf_13_6, qf_13_7, qf_13_8, qf_13_9, qf_13_10, qf_13_11, if_true, if_false]
    exact sv_x (tr_days _ _ _ h) M1 rfl rfl
  · simp only [qf_14_0, qf_14_1, qf_14_2, qf_14_3, qf_14_4, qf_14_5, qf_14_6, qf_14_7, qf_14_8, qf_14_9, qf_14_10, qf_14_11, if_true, if_false]
    exact sv_x (tr_days _ _ _ h) M1 rfl rfl
  · simp only [qf_15_0, qf_15_1, qf_15_2, qf_15_3, qf_15_4, qf_15_5, qf_15_6, qf_15_7, qf_15_8, qf_15_9, qf_15_10, qf_15_11, if_true, if_false]
    exact sv_x (tr_days _ _ _ h) M1 rfl rfl
def nx (x : Int64) : Int64 := x * 6364136223846793005 + 1442695040888963407
def nr (x : Int64) : Int32 := ((nx x).toUInt64 >>> ((33 : Int32).toInt64.toUInt64 &&& Int64.toUInt64 63)).toInt64.toInt32
theorem nr_nI (x : Int64) : ∃ g, g < 2147483648 ∧ nr x = nI g := by
  have hs : ((33 : Int32).toInt64.toUInt64 &&& Int64.toUInt64 63).toNat % 64 = 33 := by decide
  have hn : ((nx x).toUInt64 >>> ((33 : Int32).toInt64.toUInt64 &&& Int64.toUInt64 63)).toNat = (nx x).toUInt64.toNat / 2 ^ 33 := by
    rw [UInt64.toNat_shiftRight, hs, Nat.shiftRight_eq_div_pow]
  have h64 := (nx x).toUInt64.toNat_lt
  unfold nr
  generalize (nx x).toUInt64 >>> ((33 : Int32).toInt64.toUInt64 &&& Int64.toUInt64 63) = w at hn ⊢
  have hlt : w.toNat < 2147483648 := by omega
  refine ⟨w.toNat, hlt, ?_⟩
  have e2 : w.toInt64.toInt = (w.toNat : Int) := by
    show BitVec.toInt w.toBitVec = _
    exact BitVec.toInt_eq_toNat_of_lt (by show 2 * w.toNat < 2 ^ 64; omega)
  apply Int32.toInt_inj.mp
  rw [nI_toInt (by omega), Int64.toInt_toInt32, e2]
  exact Int.bmod_eq_of_le (by omega) (by omega)
theorem sim_l {n : Nat} {a1 : Int64} {μ ν : Mem} (hn : n ≤ 60) : ∀ m k N N' d x (r : Row), m < N → m < N' → k + m = n → gd 9999 d r →
    ∃ (a : Int32) (Q : Row) (Q' : Row), fl_X4_simulate a1 (nI n) N (va_up μ 1 (enc r)) x (nI k) = some (0, a, va_up μ 1 Q') ∧ fl_X5_simulate a1 (nI n) N' 2 (va_up ν 2 r) 0 x (nI k) = some (a, va_up ν 2 Q) ∧ Zr Q
  | 0, k, N + 1, N' + 1, d, x, r, _, _, hk, h => by
    have e : k = n := by omega
    subst e
    refine ⟨10000 * nI (al r) + 10 * nI (ac r) + r 196, r, enc r, ?_, ?_, gd_Z h⟩
    · show fb_X4_simulate_1 a1 (nI k) (fl_X4_simulate a1 (nI k) N) _ x (nI k) = _
      unfold fb_X4_simulate_1
      rw [if_pos (Int32.le_refl _), mu_at, X0_layersOfAll h.1, Option.bind_some, X0_frozenCells h.1, Option.bind_some, enc_hi (by omega)]
    · show fb_X5_simulate_2 a1 (nI k) (fl_X5_simulate a1 (nI k) N') _ 0 x (nI k) = _
      unfold fb_X5_simulate_2
      rw [if_pos (Int32.le_refl _), mu_at, X5_allLayers h.1, Option.bind_some, X5_allCells h.1, Option.bind_some]
      rfl
  | m + 1, k, N + 1, N' + 1, d, x, r, hN, hN', hk, h => by
    have hNk : ¬ nI n ≤ nI k := fun x => by rw [le_nI (by omega) (by omega)] at x; omega
    have e1 : nI k + 1 = nI (k + 1) := add_nI k 1
    obtain ⟨g, hg, hgr⟩ := nr_nI x
    obtain ⟨r', d', h1, h2, h3⟩ := sv_stir (μ := μ) (ν := ν) hg h
    have hX : fl_X4_simulate a1 (nI n) (N + 1) (va_up μ 1 (enc r)) x (nI k) = fl_X4_simulate a1 (nI n) N (va_up μ 1 (enc r')) (nx x) (nI (k + 1)) := by
      show fb_X4_simulate_1 a1 (nI n) (fl_X4_simulate a1 (nI n) N) _ x (nI k) = _
      unfold fb_X4_simulate_1
      rw [if_neg hNk]
      show (f_X4_simulatedTurn _ (nr x)).bind _ = _
      rw [hgr, h2, Option.bind_some, e1]
      rfl
    have hY : fl_X5_simulate a1 (nI n) (N' + 1) 2 (va_up ν 2 r) 0 x (nI k) = fl_X5_simulate a1 (nI n) N' 2 (va_up ν 2 r') 0 (nx x) (nI (k + 1)) := by
      show fb_X5_simulate_2 a1 (nI n) (fl_X5_simulate a1 (nI n) N') _ 0 x (nI k) = _
      unfold fb_X5_simulate_2
      rw [if_neg hNk]
      show (f_X5_stir _ (nr x)).bind _ = _
      rw [hgr, h3, Option.bind_some, e1]
      rfl
    rw [hX, hY]
    exact sim_l hn m (k + 1) N N' d' (nx x) r' (by omega) (by omega) (by omega) h1
theorem call_simulate {μ ν : Mem} (a1 : Int64) (a3 : Int32) (h : Rel μ ν) : Call [1] (f_X4_simulate μ a1 a3) (f_X5_simulate ν a1 a3) := by
  obtain ⟨d, hg⟩ := h.1.2
  have hn := h.1.1
  unfold f_X4_simulate f_X5_simulate
  by_cases hr : (1 : Int32) ≤ a3 ∧ a3 ≤ 60
  · obtain ⟨n, hn6, rfl⟩ := rng_nI (n := 60) (by omega) ⟨Int32.le_trans (by decide) hr.1, hr.2⟩
    rw [X4_needRange_y hr, X5_in_y hr (by decide) (by decide), Option.bind_some, Option.bind_some, if_pos rfl, if_neg i10, X0_copyFrom, Option.bind_some]
    obtain ⟨a, Q, Q', q1, q2, q3⟩ := sim_l (a1 := a1) (μ := μ) (ν := rf ν 0) hn6 n 0 FU 999999999 d a1 (ν 1) (fu_lt (by omega)) (by omega) (by omega) hg
    refine c_ok h q3 (by rw [hn]; exact q1) ?_
    show fb_X5_simulate_1 a1 (nI n) (fl_X5_simulate a1 (nI n) 999999999) ν 0 0 0 = _
    unfold fb_X5_simulate_1
    rw [ref_ok, cp5 h, Option.bind_some]
    exact q2
  · rw [X4_needRange_n hr, X5_in_n hr (by decide) (by decide), Option.bind_some, Option.bind_some, if_neg (by decide), if_pos rfl]
    refine c_no (i := 0) h rfl rfl ?_
    show fb_X5_simulate_1 a1 a3 (fl_X5_simulate a1 a3 999999999) ν 1 0 0 = _
    exact ref_no (t := 1) (by decide) _
