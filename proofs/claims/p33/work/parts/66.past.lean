/-! remembering -/
theorem rem14 {x : Nat} (h : x < 2147483648) : nI x - nI x / 14 * 14 = nI (x % 14) := pk_rem h (by omega) (d := 14) (by omega)
theorem X1_remember {μ : Mem} {c f : Nat} (h0 : μ 20 0 = nI c) (h1 : μ 20 1 = nI f) (hc : c ≤ 14) (hf : f < 14) : f_X1_remember μ = some (va_up (va_up μ (3 + (f + c) % 14) (μ 0)) 20 (if c = 14 then upd (μ 20) 1 (nI ((f + 1) % 14)) else upd (μ 20) 0 (nI (c + 1)))) := by
  have e : (nI f + nI c) - ((nI f + nI c) / 14) * 14 = nI ((f + c) % 14) := by rw [add_nI]; exact rem14 (by omega)
  have ho : ¬ oob (nI ((f + c) % 14)) 14 := by rw [oob_nI (by omega)]; omega
  have e1 : nI f + 1 = nI (f + 1) := add_nI f 1
  have e2 : nI c + 1 = nI (c + 1) := add_nI c 1
  have e3 : (va_up μ (3 + (f + c) % 14) (μ 0)) 20 = μ 20 := mu_off _ _ (by omega)
  have e4 : (nI ((f + c) % 14)).toNatClampNeg = (f + c) % 14 := cl_nI (by omega)
  have e5 : nI (f + 1) - nI (f + 1) / 14 * 14 = nI ((f + 1) % 14) := rem14 (by omega)
  unfold f_X1_remember
  simp only [e, ho, if_false, X0_copyFrom, Option.bind_some, e4, e3, h0, h1, e1, e2, e5]
  by_cases h14 : c = 14
  · subst h14
    rw [if_pos (by decide), if_pos rfl]
  · rw [if_neg (fun x => by rw [show (14 : Int32) = nI 14 from rfl, le_nI (by omega) (by omega)] at x; omega), if_neg h14]
def rst (c k : Nat) (s : Mem) : Mem := va_up s 4 (upd (s 4) (205 * c + k) (s 1 k))
theorem rst_itr (c : Nat) : ∀ m k s, itr (rst c) k m s = va_up s 4 (fun j => if 205 * c + k ≤ j ∧ j < 205 * c + k + m then s 1 (j - 205 * c) else s 4 j)
  | 0, k, s => by
    have e : (fun j => if 205 * c + k ≤ j ∧ j < 205 * c + k + 0 then s 1 (j - 205 * c) else s 4 j) = s 4 := funext fun j => if_neg (by omega)
    show s = _
    rw [e, mu_self]
  | m + 1, k, s => by
    show itr (rst c) (k + 1) m (rst c k s) = _
    rw [rst_itr c m (k + 1)]
    unfold rst
    rw [mu_two, mu_at, mu_off _ _ (by omega : (1 : Nat) ≠ 4)]
    refine congrArg _ (funext fun j => ?_)
    by_cases h1 : 205 * c + (k + 1) ≤ j ∧ j < 205 * c + (k + 1) + m
    · rw [if_pos h1, if_pos (by omega)]
    · rw [if_neg h1]
      by_cases h2 : j = 205 * c + k
      · subst h2
        rw [pk_us, if_pos (by omega), Nat.add_sub_cancel_left]
      · rw [pk_un h2, if_neg (by omega)]
def sst (k : Nat) (s : Mem) : Mem := va_up s 4 (upd (s 4) k (s 4 (205 + k)))
theorem sst_itr : ∀ m k s, itr sst k m s = va_up s 4 (fun j => if k ≤ j ∧ j < k + m then s 4 (205 + j) else s 4 j)
  | 0, k, s => by
    have e : (fun j => if k ≤ j ∧ j < k + 0 then s 4 (205 + j) else s 4 j) = s 4 := funext fun j => if_neg (by omega)
    show s = _
    rw [e, mu_self]
  | m + 1, k, s => by
    show itr sst (k + 1) m (sst k s) = _
    rw [sst_itr m (k + 1)]
    unfold sst
    rw [mu_two, mu_at]
    refine congrArg _ (funext fun j => ?_)
    by_cases h1 : k + 1 ≤ j ∧ j < k + 1 + m
    · rw [if_pos h1, pk_un (by omega), if_pos (by omega)]
    · rw [if_neg h1]
      by_cases h2 : j = k
      · subst h2
        rw [pk_us, if_pos (by omega)]
      · rw [pk_un h2, if_neg (by omega)]
theorem X5_rem1 {c : Nat} (hc : c < 14) (ν : Mem) (h : ν 0 5 = nI c) (N : Nat) (hN : 205 < N) : fl_X5_remember N 1 ν 0 = some (va_up (itr (rst c) 0 205 ν) 0 (upd (ν 0) 5 (nI (c + 1)))) := by
  have hl := loop_itrI (fun s : Mem => s 0 = ν 0) (fun n s k => fl_X5_remember n 1 s (nI k)) (rst c) (fun s => some (va_up s 0 (upd (s 0) 5 (s 0 5 + 1)))) 205
    (fun k s hk hs => by unfold rst; rw [mu_off _ _ (by omega)]; exact hs)
    (fun n s hs => by
      show fb_X5_remember_1 (fl_X5_remember n) s (nI 205) = _
      unfold fb_X5_remember_1
      rw [if_pos (by decide)])
    (fun n s k hk hs => by
      have hk2 : ¬ 205 ≤ k := by omega
      have hs' : s 0 5 = nI c := by rw [hs]; exact h
      have hq : ¬ 2870 ≤ 205 * c + k := by omega
      show fb_X5_remember_1 (fl_X5_remember n) s (nI k) = _
      unfold fb_X5_remember_1 rst
      simp (maxSteps := 2000000) (disch := omega) only [↓Lm1, L0, L1, L2, L3, L4, L5, L6, L7, L8, L9, L10, L11, L12, L14, L15, L16, L20, L21, L29, L30, L31, L32, L35, L45, L48, L50, L60, L68, L97, L99, L100, L101, L102, L112, L115, L116, L119, L120, L128, L140, L156, L196, L197, L198, L199, L200, L201, L202, L203, L204, L205, L255, L400, L410, L1000, L2665, L2870, L9999, L10000, L100000, L1000000, le_nI, lt_nI, eq_nI, oob_nI, cl_nI, sub_nI, add_nI, mul_nI, b2i_t2, b2i_f2, n10, n01, em1, em2, lm1, lm2, lm3, lm4, if_true, if_false, Option.bind_some, Nat.add_zero, Bool.false_eq_true, not_true, not_false_eq_true, hs', hk2, hq]) 205 N 0 ν rfl hN (by omega)
  have e0 : (itr (rst c) 0 205 ν) 0 = ν 0 := by rw [rst_itr, mu_off _ _ (by omega)]
  have e1 : nI c + 1 = nI (c + 1) := add_nI c 1
  rw [e0, h, e1] at hl
  exact hl
theorem X5_rem2 (ν : Mem) (h : ν 0 5 = nI 14) (N : Nat) (hN : 2665 < N) : fl_X5_remember N 2 ν 0 = fl_X5_remember (N - 2665 - 1) 1 (va_up (itr sst 0 2665 ν) 0 (upd (ν 0) 5 (nI 13))) 0 := by
  have gen : ∀ m n k s, m < n → k + m = 2665 → s 0 = ν 0 → fl_X5_remember n 2 s (nI k) = fl_X5_remember (n - m - 1) 1 (va_up (itr sst k m s) 0 (upd (ν 0) 5 (nI 13))) 0 := by
    intro m
    induction m with
    | zero =>
      intro n k s hn hk hs
      obtain ⟨n', rfl⟩ : ∃ n', n = n' + 1 := ⟨n - 1, by omega⟩
      have e : k = 2665 := by omega
      subst e
      show fb_X5_remember_2 (fl_X5_remember n') s (nI 2665) = fl_X5_remember (n' + 1 - 0 - 1) 1 (va_up s 0 (upd (ν 0) 5 (nI 13))) 0
      unfold fb_X5_remember_2
      have e1 : nI 14 - 1 = nI 13 := rfl
      rw [if_pos (by decide), hs, h, e1, show n' + 1 - 0 - 1 = n' by omega]
    | succ m ih =>
      intro n k s hn hk hs
      obtain ⟨n', rfl⟩ : ∃ n', n = n' + 1 := ⟨n - 1, by omega⟩
      have ih' := ih n' (k + 1) (sst k s) (by omega) (by omega) (by unfold sst; rw [mu_off _ _ (by omega)]; exact hs)
      show fb_X5_remember_2 (fl_X5_remember n') s (nI k) = fl_X5_remember (n' + 1 - (m + 1) - 1) 1 (va_up (itr sst (k + 1) m (sst k s)) 0 (upd (ν 0) 5 (nI 13))) 0
      rw [show n' + 1 - (m + 1) - 1 = n' - m - 1 by omega, ← ih']
      unfold fb_X5_remember_2
      have hk2 : ¬ 2665 ≤ k := by omega
      have q1 : ¬ 2870 ≤ 205 + k := by omega
      have q2 : ¬ 2870 ≤ k := by omega
      simp (maxSteps := 2000000) (disch := omega) only [↓Lm1, L0, L1, L2, L3, L4, L5, L6, L7, L8, L9, L10, L11, L12, L14, L15, L16, L20, L21, L29, L30, L31, L32, L35, L45, L48, L50, L60, L68, L97, L99, L100, L101, L102, L112, L115, L116, L119, L120, L128, L140, L156, L196, L197, L198, L199, L200, L201, L202, L203, L204, L205, L255, L400, L410, L1000, L2665, L2870, L9999, L10000, L100000, L1000000, le_nI, lt_nI, eq_nI, oob_nI, cl_nI, sub_nI, add_nI, mul_nI, b2i_t2, b2i_f2, n10, n01, em1, em2, lm1, lm2, lm3, lm4, if_true, if_false, Option.bind_some, Nat.add_zero, Bool.false_eq_true, not_true, not_false_eq_true, hk2, q1, q2]
      rfl
  exact gen 2665 N 0 ν hN (by omega) rfl
/-- what remembering leaves on the reference's side -/
theorem X5_remember {ν : Mem} {c : Nat} (h : ν 0 5 = nI c) (hc : c ≤ 14) (hZ : Zr (ν 1)) : ∃ ν', f_X5_remember ν = some ν' ∧ (∀ i, i ≠ 0 → i ≠ 4 → ν' i = ν i) ∧ (∀ j, j ≠ 5 → ν' 0 j = ν 0 j) ∧ ν' 0 5 = nI (if c = 14 then 14 else c + 1) ∧ (c < 14 → bk (ν' 4) c = ν 1 ∧ ∀ j, j < c → bk (ν' 4) j = bk (ν 4) j) ∧ (c = 14 → bk (ν' 4) 13 = ν 1 ∧ ∀ j, j < 13 → bk (ν' 4) j = bk (ν 4) (j + 1)) := by
  have hfu : FU = 1000000000 := rfl
  unfold f_X5_remember
  by_cases h14 : c = 14
  · subst h14
    rw [h, if_pos (by decide), X5_rem2 ν h FU (by omega), X5_rem1 (c := 13) (by omega) _ (by rw [mu_at, pk_us]) _ (by omega)]
    refine ⟨_, rfl, fun i h0 h4 => ?_, fun j hj => ?_, ?_, fun x => absurd x (by omega), fun _ => ⟨?_, fun j hj => ?_⟩⟩
    · rw [mu_off _ _ h0, rst_itr, mu_off _ _ h4, mu_off _ _ h0, sst_itr, mu_off _ _ h4]
    · rw [mu_at, pk_un hj, mu_at, pk_un hj]
    · rw [mu_at, pk_us, if_pos rfl]
    · funext k
      unfold bk
      by_cases hk : k < 205
      · rw [if_pos hk, mu_off _ _ (by omega), rst_itr, mu_at, if_pos (by omega), mu_off _ _ (by omega), sst_itr, mu_off _ _ (by omega), Nat.add_sub_cancel_left]
      · rw [if_neg hk, hZ k (by omega)]
    · funext k
      unfold bk
      by_cases hk : k < 205
      · rw [if_pos hk, if_pos hk, mu_off _ _ (by omega), rst_itr, mu_at, if_neg (by omega), mu_off _ _ (by omega), sst_itr, mu_at, if_pos (by omega), show 205 + (205 * j + k) = 205 * (j + 1) + k by omega]
      · rw [if_neg hk, if_neg hk]
  · have hn : ¬ nI c = 14 := fun x => by
      rw [show (14 : Int32) = nI 14 from rfl, eq_nI (by omega) (by omega)] at x
      exact h14 x
    rw [h, if_neg hn, X5_rem1 (by omega) ν h FU (by omega)]
    refine ⟨_, rfl, fun i h0 h4 => ?_, fun j hj => ?_, ?_, fun _ => ⟨?_, fun j hj => ?_⟩, fun x => absurd x h14⟩
    · rw [mu_off _ _ h0, rst_itr, mu_off _ _ h4]
    · rw [mu_at, pk_un hj]
    · rw [mu_at, pk_us, if_neg h14]
    · funext k
      unfold bk
      by_cases hk : k < 205
      · rw [if_pos hk, mu_off _ _ (by omega), rst_itr, mu_at, if_pos (by omega), Nat.add_sub_cancel_left]
      · rw [if_neg hk, hZ k (by omega)]
    · funext k
      unfold bk
      by_cases hk : k < 205
      · rw [if_pos hk, if_pos hk, mu_off _ _ (by omega), rst_itr, mu_at, if_neg (by omega)]
      · rw [if_neg hk, if_neg hk]
theorem gd_Z {D d : Nat} {r : Row} (h : gd D d r) : Zr r := h.1.2.2.1
theorem rem_rel {μ ν : Mem} (h : Rel μ ν) : ∃ μ' ν', f_X1_remember μ = some μ' ∧ f_X5_remember ν = some ν' ∧ Rel μ' ν' ∧ μ' 0 = μ 0 ∧ ν' 1 = ν 1 ∧ ν' 0 0 = ν 0 0 := by
  obtain ⟨⟨hn, d, hg⟩, h2, h3, h4, ⟨c, f, p0, p1, p5, hc, hf, hst⟩, h6, h7⟩ := h
  obtain ⟨ν', e1, e2, e3, e4, e5, e6⟩ := X5_remember p5 hc (gd_Z hg)
  refine ⟨_, ν', X1_remember p0 p1 hc hf, e1, ⟨⟨?_, d, ?_⟩, ?_, ?_, ?_, ?_, ?_, ?_⟩, ?_, e2 1 (by omega) (by omega), e3 0 (by omega)⟩
  · rw [mu_off _ _ (by omega), mu_off _ _ (by omega), e2 1 (by omega) (by omega)]
    exact hn
  · rw [e2 1 (by omega) (by omega)]
    exact hg
  · rw [e2 2 (by omega) (by omega)]
    exact h2
  · rw [mu_off _ _ (by omega), mu_off _ _ (by omega)]
    exact h3
  · rw [e2 3 (by omega) (by omega)]
    exact h4
  · have est : ∀ i, i < 14 → ∀ (g q : Row), (va_up (va_up μ (3 + (f + c) % 14) g) 20 q) (3 + i) = if i = (f + c) % 14 then g else μ (3 + i) := fun i hi g q => by
      rw [mu_off _ _ (by omega)]
      by_cases e : i = (f + c) % 14
      · rw [if_pos e, e, mu_at]
      · rw [if_neg e, mu_off _ _ (by omega)]
    by_cases h14 : c = 14
    · obtain ⟨q1, q2⟩ := e6 h14
      refine ⟨14, (f + 1) % 14, ?_, ?_, ?_, by omega, by omega, fun j hj => ?_⟩
      · rw [mu_at, if_pos h14, pk_un (by omega), p0, h14]
      · rw [mu_at, if_pos h14, pk_us]
      · rw [e4, if_pos h14]
      · show va_up (va_up μ _ _) 20 _ (3 + _) = _ ∧ _
        rw [est _ (by omega)]
        by_cases ej : j = 13
        · subst ej
          rw [if_pos (by omega), q1]
          exact ⟨hn, d, hg⟩
        · rw [if_neg (by omega), q2 j (by omega)]
          have := hst (j + 1) (by omega)
          rw [show ((f + 1) % 14 + j) % 14 = (f + (j + 1)) % 14 by omega]
          exact this
    · obtain ⟨q1, q2⟩ := e5 (by omega)
      refine ⟨c + 1, f, ?_, ?_, ?_, by omega, hf, fun j hj => ?_⟩
      · rw [mu_at, if_neg h14, pk_us]
      · rw [mu_at, if_neg h14, pk_un (by omega), p1]
      · rw [e4, if_neg h14]
      · show va_up (va_up μ _ _) 20 _ (3 + _) = _ ∧ _
        rw [est _ (by omega)]
        by_cases ej : j = c
        · subst ej
          rw [if_pos rfl, q1]
          exact ⟨hn, d, hg⟩
        · rw [if_neg (by omega), q2 j (by omega)]
          exact hst j (by omega)
  · intro s hs
    have := h6 s hs
    show va_up (va_up μ _ _) 20 _ 21 s = _ ∧ (_ ∨ _ ∧ va_up (va_up μ _ _) 20 _ (17 + s) = _ ∧ _)
    rw [mu_off _ _ (by omega), mu_off _ _ (by omega), mu_off _ _ (by omega), mu_off _ _ (by omega), e2 5 (by omega) (by omega), e2 6 (by omega) (by omega)]
    exact this
  · rw [mu_off _ _ (by omega), mu_off _ _ (by omega), e2 7 (by omega) (by omega), e3 9 (by omega)]
    exact h7
  · rw [mu_off _ _ (by omega), mu_off _ _ (by omega)]
theorem rel_now {μ ν : Mem} {r : Row} {d : Nat} (h : Rel μ ν) (hr : gd 9999 d r) : Rel (va_up μ 0 (enc r)) (va_up ν 1 r) := by
  obtain ⟨h1, h2, h3, h4, h5, h6, h7⟩ := h
  unfold Rel
  rw [mu_at, mu_at, mu_off ν _ (by omega : (2 : Nat) ≠ 1), mu_off ν _ (by omega : (3 : Nat) ≠ 1), mu_off ν _ (by omega : (4 : Nat) ≠ 1), mu_off ν _ (by omega : (5 : Nat) ≠ 1), mu_off ν _ (by omega : (6 : Nat) ≠ 1), mu_off ν _ (by omega : (7 : Nat) ≠ 1), mu_off ν _ (by omega : (0 : Nat) ≠ 1), mu_off μ _ (by omega : (2 : Nat) ≠ 0), mu_off μ _ (by omega : (20 : Nat) ≠ 0), mu_off μ _ (by omega : (21 : Nat) ≠ 0), mu_off μ _ (by omega : (19 : Nat) ≠ 0)]
  have e1 : (fun i => va_up μ 0 (enc r) (3 + i)) = fun i => μ (3 + i) := funext fun i => mu_off _ _ (by omega)
  have e2 : (fun i => va_up μ 0 (enc r) (17 + i)) = fun i => μ (17 + i) := funext fun i => mu_off _ _ (by omega)
  rw [e1, e2]
  exact ⟨⟨rfl, d, hr⟩, h2, h3, h4, h5, h6, h7⟩
/-! the two calls meet -/
def Call (cs : List Nat) (X : Option (Nat × Int32 × Mem)) (Y : Option (Int32 × Mem)) : Prop := ∃ k v μ' b ν', X = some (k, v, μ') ∧ Y = some (b, ν') ∧ ((k = 0 ∧ ν' 0 0 = 0 ∧ v = b) ∨ ∃ i, cs[i]? = some k ∧ ν' 0 0 = nI (i + 1)) ∧ Rel μ' ν'
def CallQ (μ : Mem) (cs : List Nat) (X : Option (Nat × Int32)) (Y : Option (Int32 × Mem)) : Prop := ∃ k v b ν', X = some (k, v) ∧ Y = some (b, ν') ∧ ((k = 0 ∧ ν' 0 0 = 0 ∧ v = b) ∨ ∃ i, cs[i]? = some k ∧ ν' 0 0 = nI (i + 1)) ∧ Rel μ ν'
theorem act_done {μ ν : Mem} {code a b c : Int32} {Y : Row → Option (Int32 × Row)} (h : Rel μ ν) (hd : done (ν 1) code a b c (Y (ν 1))) : ∃ v μ' ν', f_X4_act μ code a b c = some (0, v, μ') ∧ ((f_X5_remember (rf ν 0)).bind fun r7 => (Y (r7 1)).bind fun r9 => some (r9.1, va_up r7 1 r9.2)) = some (v, ν') ∧ ν' 0 0 = 0 ∧ Rel μ' ν' := by
  obtain ⟨v, r', f1, f2, f3, f4, d', f5⟩ := hd
  obtain ⟨μ', ν', m1, m2, m3, m4, m5, m6⟩ := rem_rel (rel_rf (a := 0) h)
  have hn : μ 0 = enc (ν 1) := h.1.1
  refine ⟨v, va_up μ' 0 (enc r'), va_up ν' 1 r', ?_, ?_, ?_, rel_now m3 f5⟩
  · unfold f_X4_act
    rw [hn, f1, Option.bind_some, if_neg (by decide), if_neg (by decide), if_neg (by decide), m1, Option.bind_some, m4, hn, f2, Option.bind_some]
  · rw [m2, Option.bind_some, m5, rf_o (by omega), f3]
    rfl
  · rw [mu_off _ _ (by omega), m6, rf_0]
theorem act_left {μ ν : Mem} {code a b c : Int32} {F k : Nat} (h : Rel μ ν) (hd : left (ν 1) code a b c F) (hk : (F = 1 ∧ k = 3) ∨ (F = 2 ∧ k = 1) ∨ (F = 3 ∧ k = 2)) : f_X4_act μ code a b c = some (k, 0, μ) := by
  have hn : μ 0 = enc (ν 1) := h.1.1
  unfold f_X4_act
  rw [hn, hd.1, Option.bind_some]
  rcases hk with ⟨rfl, rfl⟩ | ⟨rfl, rfl⟩ | ⟨rfl, rfl⟩
  · rw [if_pos (by decide)]
  · rw [if_neg (by decide), if_pos (by decide)]
  · rw [if_neg (by decide), if_neg (by decide), if_pos (by decide)]
theorem wrap0 {X : Option (Nat × Int32 × Mem)} {v : Int32} {μ' : Mem} (h : X = some (0, v, μ')) : (X.bind fun r1 => if r1.1 = 0 then some (0, r1.2.1, r1.2.2) else some (r1.1, 0, r1.2.2)) = some (0, v, μ') := by rw [h]; rfl
theorem wrapk {X : Option (Nat × Int32 × Mem)} {k : Nat} {μ' : Mem} (hk : k ≠ 0) (h : X = some (k, 0, μ')) : (X.bind fun r1 => if r1.1 = 0 then some (0, r1.2.1, r1.2.2) else some (r1.1, 0, r1.2.2)) = some (k, 0, μ') := by
  rw [h, Option.bind_some, if_neg hk]
