/-! the reference's day -/
theorem X5_day1 {z pm : Nat} {t w : Int32} (hz : z < 4) : ∀ m c r n, c + m = 30 → dk r pm → (∀ j, j < c → fR r z j = true) → m < n → ∃ n', n ≤ n' + m + 1 ∧ fl_X5_daySite (nI z) t w n 1 r (nI (35 * z)) (nI (fst (fun k => fR r z k == false) c m)) = fl_X5_daySite (nI z) t w n' 2 (fzl z c m r) (nI (35 * z)) (nI (fst (fun k => fR (fzl z c m r) z k == true) 0 30))
  | 0, c, r, n + 1, hc, hk, ha, hn => by
    refine ⟨n, by omega, ?_⟩
    have e : c = 30 := by omega
    subst e
    show fb_X5_daySite_1 (nI z) t w (fl_X5_daySite (nI z) t w n) r (nI (35 * z)) (nI 30) = _
    unfold fb_X5_daySite_1
    rw [if_pos (by decide), X5_first1 hz]
    rfl
  | m + 1, c, r, n + 1, hc, hk, ha, hn => by
    show ∃ n', _ ∧ _ = fl_X5_daySite (nI z) t w n' 2 (if r (35 * z + 2) < nI (4 + c) then r else fzl z (c + 1) m (if fR r z c then r else fz1 r z c)) (nI (35 * z)) (nI (fst (fun k => fR (if r (35 * z + 2) < nI (4 + c) then r else fzl z (c + 1) m (if fR r z c then r else fz1 r z c)) z k == true) 0 30))
    have i2 : nI (35 * z) + 2 = nI (35 * z + 2) := add_nI _ 2
    have o2 : ¬ oob (nI (35 * z + 2)) 205 := by rw [oob_nI (by omega)]; omega
    have c2 : (nI (35 * z + 2)).toNatClampNeg = 35 * z + 2 := cl_nI (by omega)
    have L30 : (30 : Int32) = nI 30 := rfl
    by_cases hcd : r (35 * z + 2) < nI (4 + c)
    · rw [if_pos hcd]
      refine ⟨n, by omega, ?_⟩
      show fb_X5_daySite_1 (nI z) t w (fl_X5_daySite (nI z) t w n) r (nI (35 * z)) (nI (fst (fun k => fR r z k == false) c (m + 1))) = _
      obtain ⟨g1, g2⟩ := fst_ge (fun k => fR r z k == false) (m + 1) c
      generalize fst (fun k => fR r z k == false) c (m + 1) = q at g1 g2 ⊢
      unfold fb_X5_daySite_1
      rw [L30]
      by_cases hq : 30 ≤ q
      · rw [if_pos ((le_nI (by omega) (by omega)).mpr hq), X5_first1 hz]
        rfl
      · have e4 : (4 : Int32) + nI q = nI (4 + q) := add_nI 4 q
        rw [if_neg (fun x => hq ((le_nI (by omega) (by omega)).mp x)), i2, if_neg o2]
        simp only [c2, e4]
        rw [if_pos (Int32.lt_of_lt_of_le hcd ((le_nI (by omega) (by omega)).mpr (by omega))), X5_first1 hz]
        rfl
    · rw [if_neg hcd]
      cases hf : fR r z c with
      | true =>
        obtain ⟨n', h1, h2⟩ := X5_day1 (t := t) (w := w) hz m (c + 1) r (n + 1) (by omega) hk (fun j hj => by
          by_cases e : j = c
          · rw [e]; exact hf
          · exact ha j (by omega)) (by omega)
        rw [fst_neg _ (by show (fR r z c == false) = false; rw [hf]; rfl), h2, if_pos rfl]
        exact ⟨n', by omega, rfl⟩
      | false =>
        have hk' : dk (fz1 r z c) pm := fz1_dk hz (by omega) hk
        have ha' : ∀ j, j < c + 1 → fR (fz1 r z c) z j = true := fun j hj => by
          rw [fz1_fR hz (by omega) (by omega) hk]
          by_cases e : j = c
          · rw [if_pos e]
          · rw [if_neg e]; exact ha j (by omega)
        obtain ⟨n', h1, h2⟩ := X5_day1 (t := t) (w := w) hz m (c + 1) (fz1 r z c) n (by omega) hk' ha' (by omega)
        rw [fst_pos _ (by show (fR r z c == false) = true; rw [hf]; rfl)]
        show ∃ n', _ ∧ fb_X5_daySite_1 (nI z) t w (fl_X5_daySite (nI z) t w n) r (nI (35 * z)) (nI c) = _
        unfold fb_X5_daySite_1
        have e4 : (4 : Int32) + nI c = nI (4 + c) := add_nI 4 c
        have h30 : ¬ 30 ≤ c := by omega
        rw [L30, if_neg (fun x => h30 ((le_nI (by omega) (by omega)).mp x)), i2, if_neg o2]
        simp only [c2, e4]
        rw [if_neg hcd, X5_freeze hz (by omega) hk.1 hk.2.1, Option.bind_some, if_neg o2, if_neg o2, ← fz1_eq hz, X5_first0 hz, Option.bind_some]
        rw [fst_skip _ 30 (c + 1) (by omega) (fun j hj => by show (fR (fz1 r z c) z j == false) = false; rw [ha' j hj]; rfl), show 30 - (c + 1) = m by omega, h2, if_neg (by decide)]
        exact ⟨n', by omega, rfl⟩
theorem X5_day2 {z pm : Nat} {t w : Int32} (hz : z < 4) : ∀ m c r n, c + m = 30 → dk r pm → (∀ j, j < c → fR r z j = false) → m < n → ∃ n', n ≤ n' + m + 1 ∧ fl_X5_daySite (nI z) t w n 2 r (nI (35 * z)) (nI (fst (fun k => fR r z k == true) c m)) = fl_X5_daySite (nI z) t w n' 3 (thl z c m r) 0 0
  | 0, c, r, n + 1, hc, hk, ha, hn => by
    refine ⟨n, by omega, ?_⟩
    have e : c = 30 := by omega
    subst e
    show fb_X5_daySite_2 (nI z) t w (fl_X5_daySite (nI z) t w n) r (nI (35 * z)) (nI 30) = _
    unfold fb_X5_daySite_2
    rw [if_pos (by decide)]
    rfl
  | m + 1, c, r, n + 1, hc, hk, ha, hn => by
    show ∃ n', _ ∧ _ = fl_X5_daySite (nI z) t w n' 3 (if r (35 * z + 3) < nI (3 + c) then r else thl z (c + 1) m (if fR r z c then th1 r z c else r)) 0 0
    have i2 : nI (35 * z) + 3 = nI (35 * z + 3) := add_nI _ 3
    have o2 : ¬ oob (nI (35 * z + 3)) 205 := by rw [oob_nI (by omega)]; omega
    have c2 : (nI (35 * z + 3)).toNatClampNeg = 35 * z + 3 := cl_nI (by omega)
    have L30 : (30 : Int32) = nI 30 := rfl
    by_cases hcd : r (35 * z + 3) < nI (3 + c)
    · rw [if_pos hcd]
      refine ⟨n, by omega, ?_⟩
      show fb_X5_daySite_2 (nI z) t w (fl_X5_daySite (nI z) t w n) r (nI (35 * z)) (nI (fst (fun k => fR r z k == true) c (m + 1))) = _
      obtain ⟨g1, g2⟩ := fst_ge (fun k => fR r z k == true) (m + 1) c
      generalize fst (fun k => fR r z k == true) c (m + 1) = q at g1 g2 ⊢
      unfold fb_X5_daySite_2
      rw [L30]
      by_cases hq : 30 ≤ q
      · rw [if_pos ((le_nI (by omega) (by omega)).mpr hq)]
      · have e4 : (3 : Int32) + nI q = nI (3 + q) := add_nI 3 q
        rw [if_neg (fun x => hq ((le_nI (by omega) (by omega)).mp x)), i2, if_neg o2]
        simp only [c2, e4]
        rw [if_pos (Int32.lt_of_lt_of_le hcd ((le_nI (by omega) (by omega)).mpr (by omega)))]
    · rw [if_neg hcd]
      cases hf : fR r z c with
      | false =>
        obtain ⟨n', h1, h2⟩ := X5_day2 (t := t) (w := w) hz m (c + 1) r (n + 1) (by omega) hk (fun j hj => by
          by_cases e : j = c
          · rw [e]; exact hf
          · exact ha j (by omega)) (by omega)
        rw [fst_neg _ (by show (fR r z c == true) = false; rw [hf]; rfl), h2, if_neg (by decide)]
        exact ⟨n', by omega, rfl⟩
      | true =>
        have hk' : dk (th1 r z c) pm := th1_dk hz (by omega) hk
        have ha' : ∀ j, j < c + 1 → fR (th1 r z c) z j = false := fun j hj => by
          rw [th1_fR hz (by omega) (by omega)]
          by_cases e : j = c
          · rw [if_pos e]
          · rw [if_neg e]; exact ha j (by omega)
        obtain ⟨n', h1, h2⟩ := X5_day2 (t := t) (w := w) hz m (c + 1) (th1 r z c) n (by omega) hk' ha' (by omega)
        rw [fst_pos _ (by show (fR r z c == true) = true; rw [hf]; rfl)]
        show ∃ n', _ ∧ fb_X5_daySite_2 (nI z) t w (fl_X5_daySite (nI z) t w n) r (nI (35 * z)) (nI c) = _
        unfold fb_X5_daySite_2
        have e4 : (3 : Int32) + nI c = nI (3 + c) := add_nI 3 c
        have h30 : ¬ 30 ≤ c := by omega
        rw [L30, if_neg (fun x => h30 ((le_nI (by omega) (by omega)).mp x)), i2, if_neg o2]
        simp only [c2, e4]
        rw [if_neg hcd, X5_thaw hz (by omega) hk.1 hk.2.1, Option.bind_some, if_neg o2, if_neg o2, ← th1_eq hz, X5_first1 hz, Option.bind_some]
        rw [fst_skip _ 30 (c + 1) (by omega) (fun j hj => by show (fR (th1 r z c) z j == true) = false; rw [ha' j hj]; rfl), show 30 - (c + 1) = m by omega, h2, if_pos trivial]
        exact ⟨n', by omega, rfl⟩
theorem X5_day3 {z pm n : Nat} {t w : Int32} {r : Row} (hz : z < 4) (hk : dk r pm) (v v' : Int32) : fl_X5_daySite (nI z) t w (n + 1) 3 r v v' = some (S_ls r z) := by
  show fb_X5_daySite_3 (nI z) t w (fl_X5_daySite (nI z) t w n) r v v' = _
  unfold fb_X5_daySite_3 S_ls
  have e0 : (202 : Int32).toNatClampNeg = 202 := rfl
  have e1 : (199 : Int32).toNatClampNeg = 199 := rfl
  rw [X5_lowest hz, Option.bind_some, e0, e1]
  by_cases h1 : r 202 ≤ 0
  · rw [if_pos h1, if_pos h1]
  · rw [if_neg h1, if_neg h1, if_neg (fun e => h1 (by rw [e]; decide))]
    by_cases h2 : r 199 - r 199 / r 202 * r 202 = 0
    · rw [if_pos h2, if_pos h2]
      rcases ld_or (fR r z) 30 with ⟨h3, _⟩ | ⟨c, hc, h3, _⟩
      · rw [if_pos h3, h3, if_pos (by decide)]
      · rw [h3, if_neg (nI_pos (by omega)), if_neg (m1_ne (by omega)), cl_nI (by omega), X5_thaw hz hc hk.1 hk.2.1]
        rfl
    · rw [if_neg h2, if_neg h2]
theorem X5_daySite {r : Row} {z pm w' : Nat} {t : Int32} (hz : z < 4) (hk : dk r pm) (hs : sw r z) (hr : rt r) (ht : dg t) (hw : w' ≤ 30) : f_X5_daySite r (nI z) t (nI w') = some (S_ds r z t (nI w')) := by
  have h0 := X5_weather hz hs hr ht hw
  have hfu : FU = 1000000000 := rfl
  obtain ⟨n1, a1, b1⟩ := X5_day1 (t := t) (w := nI w') hz 30 0 (S_wt r z t (nI w')) FU (by omega) (S_wt_dk hz hk) (fun j hj => absurd hj (Nat.not_lt_zero j)) (fu_lt (by omega))
  obtain ⟨n2, a2, b2⟩ := X5_day2 (t := t) (w := nI w') hz 30 0 (fzl z 0 30 (S_wt r z t (nI w'))) n1 (by omega) (fzl_dk hz 30 0 _ (by omega) (S_wt_dk hz hk)) (fun j hj => absurd hj (Nat.not_lt_zero j)) (by omega)
  obtain ⟨n3, rfl⟩ : ∃ n3, n2 = n3 + 1 := ⟨n2 - 1, by omega⟩
  unfold f_X5_daySite
  have i35 : (35 : Int32) * nI z = nI (35 * z) := mul_nI 35 z
  rw [h0, Option.bind_some, X5_first0 hz, Option.bind_some, i35, b1, b2, X5_day3 hz (thl_dk hz 30 0 _ (by omega) (fzl_dk hz 30 0 _ (by omega) (S_wt_dk hz hk)))]
  rfl
