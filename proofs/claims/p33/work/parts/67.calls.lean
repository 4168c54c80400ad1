/-! the actions as they are called -/
theorem ref_no {ν : Mem} {t : Int32} (ht : ¬ t = 0) (A : Int32 × Mem → Option (Int32 × Mem)) : ((f_X5_refused ν t).bind fun r => if r.1 = 0 then A r else some ((0 : Int32), r.2)) = some (0, rf ν t) := by
  rw [X5_refusedN ν ht, Option.bind_some]
  exact if_neg i10
theorem ref_ok {ν : Mem} (A : Int32 × Mem → Option (Int32 × Mem)) : ((f_X5_refused ν 0).bind fun r => if r.1 = 0 then A r else some ((0 : Int32), r.2)) = A (0, rf ν 0) := by
  rw [X5_refused0, Option.bind_some]
  exact if_pos rfl
theorem mk_left {μ ν : Mem} {code a b c : Int32} {F k i : Nat} {cs : List Nat} {X : Option (Nat × Int32 × Mem)} {Y : Option (Int32 × Mem)} (h : Rel μ ν) (hd : left (ν 1) code a b c F) (hk : (F = 1 ∧ k = 3) ∨ (F = 2 ∧ k = 1) ∨ (F = 3 ∧ k = 2)) (hi : cs[i]? = some k) (hX : X = ((f_X4_act μ code a b c).bind fun r1 => if r1.1 = 0 then some (0, r1.2.1, r1.2.2) else some (r1.1, 0, r1.2.2))) (hY : Y = some (0, rf ν (nI (i + 1)))) : Call cs X Y :=
  ⟨k, 0, μ, 0, rf ν (nI (i + 1)), by rw [hX]; exact wrapk (by omega) (act_left h hd hk), hY, Or.inr ⟨i, hi, rf_0⟩, rel_rf h⟩
theorem mk_done {μ ν : Mem} {code a b c : Int32} {cs : List Nat} {X : Option (Nat × Int32 × Mem)} {Y : Option (Int32 × Mem)} (Yf : Row → Option (Int32 × Row)) (h : Rel μ ν) (hd : done (ν 1) code a b c (Yf (ν 1))) (hX : X = ((f_X4_act μ code a b c).bind fun r1 => if r1.1 = 0 then some (0, r1.2.1, r1.2.2) else some (r1.1, 0, r1.2.2))) (hY : Y = ((f_X5_remember (rf ν 0)).bind fun r7 => (Yf (r7 1)).bind fun r9 => some (r9.1, va_up r7 1 r9.2))) : Call cs X Y := by
  obtain ⟨v, μ', ν', h1, h2, h3, h4⟩ := act_done (Y := Yf) h hd
  exact ⟨0, v, μ', v, ν', by rw [hX]; exact wrap0 h1, by rw [hY]; exact h2, Or.inl ⟨rfl, h3, rfl⟩, h4⟩
theorem call_site {μ ν : Mem} (h : Rel μ ν) : Call [2] (f_X4_site μ) (f_X5_site ν) := by
  obtain ⟨d, hg⟩ := h.1.2
  rcases site_cases hg with ⟨hl, h4⟩ | ⟨hd, m, hm, h4⟩
  · refine mk_left (k := 2) (i := 0) h hl (by omega) rfl rfl ?_
    unfold f_X5_site
    rw [show (196 : Int32).toNatClampNeg = 196 from rfl, h4, if_pos (by decide)]
    show fb_X5_site_1 (fl_X5_site 999999999) ν 1 = _
    exact ref_no (t := 1) (by decide) _
  · refine mk_done f_X5_addSite h hd rfl ?_
    unfold f_X5_site
    rw [show (196 : Int32).toNatClampNeg = 196 from rfl, h4, if_neg (fun x => by rw [show (4 : Int32) = nI 4 from rfl, eq_nI (by omega) (by omega)] at x; omega)]
    show fb_X5_site_1 (fl_X5_site 999999999) ν 0 = _
    exact ref_ok _
theorem call_tube {μ ν : Mem} (a1 a2 : Int32) (h : Rel μ ν) : Call [3, 1, 2] (f_X4_tube μ a1 a2) (f_X5_tube ν a1 a2) := by
  obtain ⟨d, hg⟩ := h.1.2
  rcases tube_cases a1 a2 hg with ⟨hl, hs⟩ | ⟨hl, hs, hr⟩ | ⟨hl, hs, hr, h8⟩ | ⟨hd, hs, hr, m, hm, h8⟩
  · refine mk_left (k := 3) (i := 0) h hl (by omega) rfl rfl ?_
    unfold f_X5_tube
    rw [hs, Option.bind_some, if_pos rfl]
    show fb_X5_tube_1 a1 a2 (fl_X5_tube a1 a2 999999999) ν 1 = _
    exact ref_no (t := 1) (by decide) _
  · refine mk_left (k := 1) (i := 1) h hl (by omega) rfl rfl ?_
    unfold f_X5_tube
    rw [hs, Option.bind_some, if_neg i10, X5_in_n hr (by decide) (by decide), Option.bind_some, if_pos rfl]
    show fb_X5_tube_1 a1 a2 (fl_X5_tube a1 a2 999999999) ν 2 = _
    exact ref_no (t := 2) (by decide) _
  · refine mk_left (k := 2) (i := 2) h hl (by omega) rfl rfl ?_
    unfold f_X5_tube
    rw [hs, Option.bind_some, if_neg i10, X5_in_y hr (by decide) (by decide), Option.bind_some, if_neg i10, show (197 : Int32).toNatClampNeg = 197 from rfl, h8, if_pos (by decide)]
    show fb_X5_tube_1 a1 a2 (fl_X5_tube a1 a2 999999999) ν 3 = _
    exact ref_no (t := 3) (by decide) _
  · refine mk_done (fun r => f_X5_addTube r a1 a2) h hd rfl ?_
    unfold f_X5_tube
    rw [hs, Option.bind_some, if_neg i10, X5_in_y hr (by decide) (by decide), Option.bind_some, if_neg i10, show (197 : Int32).toNatClampNeg = 197 from rfl, h8, if_neg (fun x => by rw [show (8 : Int32) = nI 8 from rfl, eq_nI (by omega) (by omega)] at x; omega)]
    show fb_X5_tube_1 a1 a2 (fl_X5_tube a1 a2 999999999) ν 0 = _
    exact ref_ok _
theorem fl_pipe {a1 a2 : Int32} {ν : Mem} {t : Int32} : fl_X5_pipe a1 a2 FU 1 ν t = if t = 0 then fl_X5_pipe a1 a2 999999999 2 ν 1 else (f_X5_canLay (ν 1) a1 a2).bind fun r8 => if r8 = 0 then fl_X5_pipe a1 a2 999999999 2 ν 2 else fl_X5_pipe a1 a2 999999999 2 ν 0 := rfl
theorem call_pipe {μ ν : Mem} (a1 a2 : Int32) (h : Rel μ ν) : Call [3, 2] (f_X4_pipe μ a1 a2) (f_X5_pipe ν a1 a2) := by
  obtain ⟨d, hg⟩ := h.1.2
  rcases pipe_cases a1 a2 hg with ⟨hl, hs⟩ | ⟨hl, hs, hr, _⟩ | ⟨hl, hs, hr, h8⟩ | ⟨hd, hs, hr, h8⟩
  · refine mk_left (k := 3) (i := 0) h hl (by omega) rfl rfl ?_
    unfold f_X5_pipe
    rw [hs, Option.bind_some, if_pos rfl, fl_pipe, if_pos rfl]
    show fb_X5_pipe_2 a1 a2 (fl_X5_pipe a1 a2 999999998) ν 1 = _
    exact ref_no (t := 1) (by decide) _
  · refine mk_left (k := 3) (i := 0) h hl (by omega) rfl rfl ?_
    unfold f_X5_pipe
    rw [hs, Option.bind_some, if_neg i10, hr, Option.bind_some, if_pos rfl, fl_pipe, if_pos rfl]
    show fb_X5_pipe_2 a1 a2 (fl_X5_pipe a1 a2 999999998) ν 1 = _
    exact ref_no (t := 1) (by decide) _
  · refine mk_left (k := 2) (i := 1) h hl (by omega) rfl rfl ?_
    unfold f_X5_pipe
    rw [hs, Option.bind_some, if_neg i10, hr, Option.bind_some, if_neg i10, fl_pipe, if_neg i10, h8, Option.bind_some, if_pos rfl]
    show fb_X5_pipe_2 a1 a2 (fl_X5_pipe a1 a2 999999998) ν 2 = _
    exact ref_no (t := 2) (by decide) _
  · refine mk_done (fun r => f_X5_addPipe r a1 a2) h hd rfl ?_
    unfold f_X5_pipe
    rw [hs, Option.bind_some, if_neg i10, hr, Option.bind_some, if_neg i10, fl_pipe, if_neg i10, h8, Option.bind_some, if_neg i10]
    show fb_X5_pipe_2 a1 a2 (fl_X5_pipe a1 a2 999999998) ν 0 = _
    exact ref_ok _
theorem call_fence {μ ν : Mem} (a1 a2 : Int32) (h : Rel μ ν) : Call [3, 1] (f_X4_fence μ a1 a2) (f_X5_fence ν a1 a2) := by
  obtain ⟨d, hg⟩ := h.1.2
  rcases fence_cases a1 a2 hg with ⟨hl, hs⟩ | ⟨hl, hs, hr⟩ | ⟨hd, hs, hr⟩
  · refine mk_left (k := 3) (i := 0) h hl (by omega) rfl rfl ?_
    unfold f_X5_fence
    rw [hs, Option.bind_some, if_pos rfl]
    show fb_X5_fence_1 a1 a2 (fl_X5_fence a1 a2 999999999) ν 1 = _
    exact ref_no (t := 1) (by decide) _
  · refine mk_left (k := 1) (i := 1) h hl (by omega) rfl rfl ?_
    unfold f_X5_fence
    rw [hs, Option.bind_some, if_neg i10, X5_in_n hr (by decide) (by decide), Option.bind_some, if_pos rfl]
    show fb_X5_fence_1 a1 a2 (fl_X5_fence a1 a2 999999999) ν 2 = _
    exact ref_no (t := 2) (by decide) _
  · refine mk_done (fun r => f_X5_put r (35 * a1 + 1) a2) h hd rfl ?_
    unfold f_X5_fence
    rw [hs, Option.bind_some, if_neg i10, X5_in_y hr (by decide) (by decide), Option.bind_some, if_neg i10]
    show fb_X5_fence_1 a1 a2 (fl_X5_fence a1 a2 999999999) ν 0 = _
    exact ref_ok _
theorem call_shovel {μ ν : Mem} (a1 : Int32) (h : Rel μ ν) : Call [3] (f_X4_shovel μ a1) (f_X5_shovel ν a1) := by
  obtain ⟨d, hg⟩ := h.1.2
  rcases shovel_cases a1 hg with ⟨hl, hs⟩ | ⟨hd, hs⟩
  · refine mk_left (k := 3) (i := 0) h hl (by omega) rfl rfl ?_
    unfold f_X5_shovel
    rw [hs, Option.bind_some, if_pos rfl]
    show fb_X5_shovel_1 a1 (fl_X5_shovel a1 999999999) ν 1 = _
    exact ref_no (t := 1) (by decide) _
  · refine mk_done (fun r => f_X5_put r (35 * a1 + 0) 0) h hd rfl ?_
    unfold f_X5_shovel
    rw [hs, Option.bind_some, if_neg i10]
    show fb_X5_shovel_1 a1 (fl_X5_shovel a1 999999999) ν 0 = _
    exact ref_ok _
theorem call_days {μ ν : Mem} (t w n : Int32) (h : Rel μ ν) : Call [1, 2] (f_X4_days μ t w n) (f_X5_days ν t w n) := by
  obtain ⟨d, hg⟩ := h.1.2
  rcases days_cases t w n hg with ⟨hl, hs⟩ | ⟨hl, hs, hr⟩ | ⟨hd, hs, hr⟩
  · refine mk_left (k := 1) (i := 0) h hl (by omega) rfl rfl ?_
    unfold f_X5_days
    rw [X5_isWeather_n hs, Option.bind_some, if_pos rfl]
    show fb_X5_days_1 t w n (fl_X5_days t w n 999999999) ν 1 = _
    exact ref_no (t := 1) (by decide) _
  · refine mk_left (k := 2) (i := 1) h hl (by omega) rfl rfl ?_
    unfold f_X5_days
    rw [X5_isWeather_y hs, Option.bind_some, if_neg i10, hr, Option.bind_some, if_pos rfl]
    show fb_X5_days_1 t w n (fl_X5_days t w n 999999999) ν 2 = _
    exact ref_no (t := 2) (by decide) _
  · refine mk_done (fun r => f_X5_goDays r t w n) h hd rfl ?_
    unfold f_X5_days
    rw [X5_isWeather_y hs, Option.bind_some, if_neg i10, hr, Option.bind_some, if_neg i10]
    show fb_X5_days_1 t w n (fl_X5_days t w n 999999999) ν 0 = _
    exact ref_ok _
theorem call_set {μ ν : Mem} (a v : Int32) (h : Rel μ ν) : Call [1] (f_X4_set μ a v) (f_X5_set ν a v) := by
  obtain ⟨d, hg⟩ := h.1.2
  rcases set_cases a v hg with ⟨hl, hs⟩ | ⟨hd, hs⟩
  · refine mk_left (k := 1) (i := 0) h hl (by omega) rfl rfl ?_
    unfold f_X5_set
    rw [X5_isSetting_n hs, Option.bind_some, if_pos rfl]
    show fb_X5_set_1 a v (fl_X5_set a v 999999999) ν 1 = _
    exact ref_no (t := 1) (by decide) _
  · refine mk_done (fun r => f_X5_put r (202 + a) v) h hd rfl ?_
    unfold f_X5_set
    rw [X5_isSetting_y hs, Option.bind_some, if_neg i10]
    show fb_X5_set_1 a v (fl_X5_set a v 999999999) ν 0 = _
    exact ref_ok _
theorem call_winter {μ ν : Mem} (h : Rel μ ν) : Call [] (f_X4_winter μ) (f_X5_winter ν) := by
  obtain ⟨d, hg⟩ := h.1.2
  exact mk_done f_X5_beginWinter h (winter_done hg) rfl rfl
/-! undo, save, restore -/
theorem X5_take {g : Row → Row} : True := trivial
def ust (c : Nat) (k : Nat) (s : Mem) : Mem := va_up s 1 (upd (s 1) k (s 4 (205 * c + k)))
theorem ust_itr (c : Nat) : ∀ m k s, itr (ust c) k m s = va_up s 1 (fun j => if k ≤ j ∧ j < k + m then s 4 (205 * c + j) else s 1 j)
  | 0, k, s => by
    have e : (fun j => if k ≤ j ∧ j < k + 0 then s 4 (205 * c + j) else s 1 j) = s 1 := funext fun j => if_neg (by omega)
    show s = _
    rw [e, mu_self]
  | m + 1, k, s => by
    show itr (ust c) (k + 1) m (ust c k s) = _
    rw [ust_itr c m (k + 1)]
    unfold ust
    rw [mu_two, mu_at, mu_off s _ (by omega : (4 : Nat) ≠ 1)]
    refine congrArg _ (funext fun j => ?_)
    by_cases h1 : k + 1 ≤ j ∧ j < k + 1 + m
    · rw [if_pos h1, if_pos (by omega)]
    · rw [if_neg h1]
      by_cases h2 : j = k
      · subst h2
        rw [pk_us, if_pos (by omega)]
      · rw [pk_un h2, if_neg (by omega)]
theorem ust_bk {c : Nat} {s : Mem} (hZ : Zr (s 1)) : itr (ust c) 0 205 s = va_up s 1 (bk (s 4) c) := by
  rw [ust_itr]
  refine congrArg _ (funext fun j => ?_)
  unfold bk
  by_cases h : j < 205
  · rw [if_pos (by omega), if_pos h]
  · rw [if_neg (by omega), if_neg h, hZ j (by omega)]
theorem X5_undo_l {c : Nat} (hc : c < 14) {s : Mem} (h5 : s 0 5 = nI c) (hZ : Zr (s 1)) {N : Nat} (hN : 205 < N) : fl_X5_undo N 2 s 0 0 = some (nI c, va_up s 1 (bk (s 4) c)) := by
  have hl := loop_itrI (fun q : Mem => q 0 = s 0) (fun n q k => fl_X5_undo n 2 q 0 (nI k)) (ust c) (fun q => some (q 0 5, q)) 205
    (fun k q hk hq => by unfold ust; rw [mu_off _ _ (by omega)]; exact hq)
    (fun n q hq => by
      show fb_X5_undo_2 (fl_X5_undo n) q 0 (nI 205) = _
      unfold fb_X5_undo_2
      rw [if_pos (by decide)])
    (fun n q k hk hq => by
      have hk2 : ¬ 205 ≤ k := by omega
      have hs' : q 0 5 = nI c := by rw [hq]; exact h5
      have hq2 : ¬ 2870 ≤ 205 * c + k := by omega
      show fb_X5_undo_2 (fl_X5_undo n) q 0 (nI k) = _
      unfold fb_X5_undo_2 ust
      simp (maxSteps := 2000000) (disch := omega) only [↓Lm1, L0, L1, L2, L3, L4, L5, L6, L7, L8, L9, L10, L11, L12, L14, L15, L16, L20, L21, L29, L30, L31, L32, L35, L45, L48, L50, L60, L68, L97, L99, L100, L101, L102, L112, L115, L116, L119, L120, L128, L140, L156, L196, L197, L198, L199, L200, L201, L202, L203, L204, L205, L255, L400, L410, L1000, L2665, L2870, L9999, L10000, L100000, L1000000, le_nI, lt_nI, eq_nI, oob_nI, cl_nI, sub_nI, add_nI, mul_nI, b2i_t2, b2i_f2, n10, n01, em1, em2, lm1, lm2, lm3, lm4, if_true, if_false, Option.bind_some, Nat.add_zero, Bool.false_eq_true, not_true, not_false_eq_true, hs', hk2, hq2]) 205 N 0 s rfl hN (by omega)
  rw [ust_bk hZ, mu_off s _ (by omega : (0 : Nat) ≠ 1), h5] at hl
  exact hl
theorem call_undo {μ ν : Mem} (h : Rel μ ν) : Call [2] (f_X4_undo μ) (f_X5_undo ν) := by
  obtain ⟨⟨hn, d, hg⟩, h2, h3, h4, ⟨c, f, p0, p1, p5, hc, hf, hst⟩, h6, h7⟩ := h
  have hR : Rel μ ν := ⟨⟨hn, d, hg⟩, h2, h3, h4, ⟨c, f, p0, p1, p5, hc, hf, hst⟩, h6, h7⟩
  by_cases h0 : c = 0
  · subst h0
    refine ⟨2, 0, μ, 0, rf ν 1, ?_, ?_, Or.inr ⟨0, rfl, rf_0⟩, rel_rf hR⟩
    · unfold f_X4_undo
      rw [p0, if_neg (by decide)]
    · unfold f_X5_undo
      rw [p5, if_pos (by decide)]
      show fb_X5_undo_1 (fl_X5_undo 999999999) ν 1 0 = _
      exact ref_no (t := 1) (by decide) _
  · obtain ⟨c', rfl⟩ : ∃ c', c = c' + 1 := ⟨c - 1, by omega⟩
    have e1 : nI (c' + 1) - 1 = nI c' := nI_m1 c'
    have e2 : nI f + nI c' - (nI f + nI c') / 14 * 14 = nI ((f + c') % 14) := by rw [add_nI]; exact rem14 (by omega)
    have ho : ¬ oob (nI ((f + c') % 14)) 14 := by rw [oob_nI (by omega)]; omega
    have ec : (nI ((f + c') % 14)).toNatClampNeg = (f + c') % 14 := cl_nI (by omega)
    obtain ⟨hs1, d', hs2⟩ := hst c' (by omega)
    have hs1' : μ (3 + (f + c') % 14) = enc (bk (ν 4) c') := hs1
    have hX : f_X4_undo μ = some (0, nI c', va_up (va_up μ 20 (upd (μ 20) 0 (nI c'))) 0 (enc (bk (ν 4) c'))) := by
      unfold f_X4_undo f_X1_takeBack
      have hp : (0 : Int32) < nI (c' + 1) := by rw [show (0 : Int32) = nI 0 from rfl, lt_nI (by omega) (by omega)]; omega
      have hp2 : ¬ nI (c' + 1) ≤ 0 := Int32.not_le.mpr hp
      have u1 : upd (μ 20) 0 (nI c') 1 = nI f := by rw [pk_un (by omega), p1]
      have u0 : upd (μ 20) 0 (nI c') 0 = nI c' := pk_us
      have g3 : va_up μ 20 (upd (μ 20) 0 (nI c')) (3 + (f + c') % 14) = enc (bk (ν 4) c') := by rw [mu_off _ _ (by omega), hs1']
      simp only [p0, hp, if_true, hp2, if_false, e1, mu_at, u1, u0, e2, ho, ec, g3, X0_copyFrom, Option.bind_some, mu_off _ _ (by omega : (20 : Nat) ≠ 0)]
    have hp5 : ¬ nI (c' + 1) = 0 := nI_ne0 (by omega) (by omega)
    have hY : f_X5_undo ν = some (nI c', va_up (va_up (rf ν 0) 0 (upd ((rf ν 0) 0) 5 (nI c'))) 1 (bk (ν 4) c')) := by
      unfold f_X5_undo
      rw [p5, if_neg hp5]
      show fb_X5_undo_1 (fl_X5_undo 999999999) ν 0 0 = _
      unfold fb_X5_undo_1
      have er : (f_X5_refused ν 0) = some (0, rf ν 0) := rfl
      have e5 : (rf ν 0) 0 5 = nI (c' + 1) := by rw [rf_n (by omega), p5]
      rw [er, Option.bind_some, if_pos rfl]
      show fl_X5_undo 999999999 2 (va_up (rf ν 0) 0 (upd (rf ν 0 0) 5 (rf ν 0 0 5 - 1))) 0 0 = _
      rw [e5, e1, X5_undo_l (c := c') (by omega) (by rw [mu_at, pk_us]) (by rw [mu_off _ _ (by omega), rf_o (by omega)]; exact gd_Z hg) (by omega), mu_off (rf ν 0) _ (by omega : (4 : Nat) ≠ 0), rf_o (i := 4) (by omega)]
    refine ⟨0, nI c', _, nI c', _, hX, hY, Or.inl ⟨rfl, ?_, rfl⟩, ?_⟩
    · rw [mu_off _ _ (by omega), mu_at, pk_un (by omega), rf_0]
    · have hR' : Rel (va_up μ 20 (upd (μ 20) 0 (nI c'))) (va_up (rf ν 0) 0 (upd ((rf ν 0) 0) 5 (nI c'))) := by
        refine ⟨?_, ?_, ?_, ?_, ⟨c', f, ?_, ?_, ?_, by omega, hf, fun j hj => ?_⟩, fun s hs => ?_, ?_⟩
        · rw [mu_off μ _ (by omega : (0 : Nat) ≠ 20), mu_off _ _ (by omega : (1 : Nat) ≠ 0), rf_o (by omega)]
          exact ⟨hn, d, hg⟩
        · rw [mu_off _ _ (by omega : (2 : Nat) ≠ 0), rf_o (by omega)]
          exact h2
        · rw [mu_off _ _ (by omega : (2 : Nat) ≠ 20)]
          exact h3
        · rw [mu_off _ _ (by omega : (3 : Nat) ≠ 0), rf_o (by omega)]
          exact h4
        · rw [mu_at, pk_us]
        · rw [mu_at, pk_un (by omega), p1]
        · rw [mu_at, pk_us]
        · rw [mu_off _ _ (by omega : (4 : Nat) ≠ 0), rf_o (by omega)]
          have := hst j (by omega)
          show va_up μ 20 _ (3 + (f + j) % 14) = _ ∧ _
          rw [mu_off _ _ (by omega)]
          exact this
        · have := h6 s hs
          show va_up μ 20 _ 21 s = _ ∧ (_ ∨ _ ∧ va_up μ 20 _ (17 + s) = _ ∧ _)
          rw [mu_off μ _ (by omega : (21 : Nat) ≠ 20), mu_off μ _ (by omega : (17 + s) ≠ 20), mu_off _ _ (by omega : (5 : Nat) ≠ 0), mu_off _ _ (by omega : (6 : Nat) ≠ 0), rf_o (by omega), rf_o (by omega)]
          exact this
        · rw [mu_off μ _ (by omega : (19 : Nat) ≠ 20), mu_off _ _ (by omega : (7 : Nat) ≠ 0), mu_at, pk_un (by omega), rf_o (by omega), rf_n (by omega)]
          exact h7
      exact rel_now hR' hs2
