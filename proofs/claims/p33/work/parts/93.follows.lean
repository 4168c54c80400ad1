/-! follows is always yes -/
/-- what stands fast while the law asks: the object as it was saved -/
def C9 (μ0 : Mem) (r : Row) (W : Int64) (d : Nat) : Prop := gd 9999 d r ∧ μ0 0 = enc r ∧ μ0 18 = enc r ∧ μ0 21 1 = 1 ∧ f_L_now μ0 = some W
theorem C9.g {μ0 : Mem} {r : Row} {W : Int64} {d : Nat} (h : C9 μ0 r W d) : gd 9999 d r := h.1
theorem C9.n0 {μ0 : Mem} {r : Row} {W : Int64} {d : Nat} (h : C9 μ0 r W d) : μ0 0 = enc r := h.2.1
theorem C9.s0 {μ0 : Mem} {r : Row} {W : Int64} {d : Nat} (h : C9 μ0 r W d) : μ0 18 = enc r := h.2.2.1
theorem C9.s1 {μ0 : Mem} {r : Row} {W : Int64} {d : Nat} (h : C9 μ0 r W d) : μ0 21 1 = 1 := h.2.2.2.1
theorem C9.w {μ0 : Mem} {r : Row} {W : Int64} {d : Nat} (h : C9 μ0 r W d) : f_L_now μ0 = some W := h.2.2.2.2
/-- the site, the warmth and the number that it is asked with -/
def D9 (r : Row) (d m s V x : Nat) : Prop := r 196 = nI m ∧ m ≤ 4 ∧ s < m ∧ 1 ≤ V ∧ V ≤ 30 ∧ d < 9800 ∧ x < 2147483648
theorem D9.m6 {r : Row} {d m s V x : Nat} (h : D9 r d m s V x) : r 196 = nI m := h.1
theorem D9.m4 {r : Row} {d m s V x : Nat} (h : D9 r d m s V x) : m ≤ 4 := h.2.1
theorem D9.sm {r : Row} {d m s V x : Nat} (h : D9 r d m s V x) : s < m := h.2.2.1
theorem D9.v1 {r : Row} {d m s V x : Nat} (h : D9 r d m s V x) : 1 ≤ V := h.2.2.2.1
theorem D9.v3 {r : Row} {d m s V x : Nat} (h : D9 r d m s V x) : V ≤ 30 := h.2.2.2.2.1
theorem D9.d8 {r : Row} {d m s V x : Nat} (h : D9 r d m s V x) : d < 9800 := h.2.2.2.2.2.1
theorem D9.x3 {r : Row} {d m s V x : Nat} (h : D9 r d m s V x) : x < 2147483648 := h.2.2.2.2.2.2
def Fin9 (μ0 q : Mem) : Prop := q 0 = μ0 0 ∧ q 20 0 = 0 ∧ q 20 1 = 0 ∧ MJ q ∧ ∀ i, (i = 2 ∨ i = 17 ∨ i = 18 ∨ i = 19 ∨ i = 21) → q i = μ0 i
def Yes9 (μ0 : Mem) (o : Option (Int32 × Mem)) : Prop := ∃ q, o = some (1, q) ∧ Fin9 μ0 q
theorem nlt0 {a : Nat} (h : a < 2 ^ 63) : ¬ lg_cmp (nL a) 0 < 0 := fun x => by rw [clt0 h] at x; omega
theorem nle0 {a : Nat} (h : a < 2 ^ 63) (h0 : 0 < a) : ¬ lg_cmp (nL a) 0 ≤ 0 := fun x => by rw [cle0 h] at x; omega
theorem neg_t {t : Nat} (ht1 : 1 ≤ t) (ht : t ≤ 30) : (-30 : Int32) ≤ -nI t ∧ -nI t ≤ 30 := ⟨(neg_rng ht1 ht).1, Int32.le_trans (neg_rng ht1 ht).2 (by decide)⟩
theorem pos_t {t : Nat} (ht : t ≤ 30) : (-30 : Int32) ≤ nI t ∧ nI t ≤ 30 := ⟨Int32.le_trans (by decide) (nI_pos' (by omega)), by rw [show (30 : Int32) = nI 30 from rfl, le_nI (by omega) (by omega)]; exact ht⟩
theorem fo_2 {μ0 μ : Mem} {r : Row} {W : Int64} {d n : Nat} {a : Int32} (C : C9 μ0 r W d) (h : F9 μ0 (enc r) [] μ) : Yes9 μ0 (fl_L_follows a (n + 1) 2 μ 0 0 0 1 0 0 0 0 W 0) := by
  have hd9 := C.g.2.2.1
  have hnow : ∀ m : Mem, m 0 = enc r → f_L_now m = some W := fun m hm => by rw [now_congr (hm.trans C.n0.symm), C.w]
  have hX := X4_restore1 (μ := μ) (r := r) (by rw [h.2.2.2 18 (by omega), C.s0]) (by rw [h.2.2.2 21 (by omega), C.s1])
  have hM := mj_restore h.2.2.1 hX
  generalize hq : va_up (va_up μ 20 (upd (upd (μ 20) 0 0) 1 0)) 0 (enc r) = q at hX hM
  have q0 : q 0 = enc r := by rw [← hq, mu_at]
  have q20 : q 20 = upd (upd (μ 20) 0 0) 1 0 := by rw [← hq, mu_off _ _ (by omega), mu_at]
  have qo : ∀ i, i ≠ 0 → i ≠ 20 → q i = μ i := fun i h1 h2 => by rw [← hq, mu_off _ _ h1, mu_off _ _ h2]
  have z0 : q 20 0 = 0 := by rw [q20, pk_un (by omega), pk_us]
  have z1 : q 20 1 = 0 := by rw [q20, pk_us]
  have hR : f_L_restore μ 1 = some (nL d, q) := by
    unfold f_L_restore
    rw [hX, Option.bind_some, if_pos rfl, C.g.2.1, nI_L (by omega)]
  have hU : f_L_undo q = some (-9000000000000000003, q) := by
    unfold f_L_undo f_X4_undo
    rw [z0, if_neg (by decide)]
    rfl
  show Yes9 μ0 (fb_L_follows_2 a (fl_L_follows a n) μ 0 0 0 1 0 0 0 0 W 0)
  unfold fb_L_follows_2
  rw [if_neg i10, hnow μ h.1, Option.bind_some, if_pos (ceq_s W), hR, Option.bind_some, if_neg (nlt0 (by omega : d < 2 ^ 63)), hnow q q0, Option.bind_some, if_pos (ceq_s W), hU, Option.bind_some, if_pos (ceq_s (-9000000000000000003))]
  exact ⟨q, rfl, q0.trans C.n0.symm, z0, z1, hM, fun i hi => by rw [qo i (by omega) (by omega)]; exact h.2.2.2 i hi⟩
theorem fo_8 {μ0 μ : Mem} {r : Row} {W : Int64} {d m s V x N n : Nat} (C : C9 μ0 r W d) (D : D9 r d m s V x) (hN1 : 1 ≤ N) (hN : N ≤ 9) (h : F9 μ0 (enc r) [] μ) : Yes9 μ0 (fl_L_follows (nI x) (n + 2) 8 μ 1 (nI N) 0 0 0 (nI V) 0 0 W 0) := by
  obtain ⟨q, hq, hq8⟩ := inv_198 C.g.1
  have hx := D.x3
  have hd := D.d8
  have hV := neg_t D.v1 D.v3
  show Yes9 μ0 (fb_L_follows_8 (nI x) (fl_L_follows (nI x) (n + 1)) μ 1 (nI N) 0 0 0 (nI V) 0 0 W 0)
  unfold fb_L_follows_8
  rw [V_ab2 h.1 hq hq8, Option.bind_some]
  by_cases h0 : q ≤ 0
  · rw [if_pos ((cle0 (by omega)).mpr h0)]
    exact fo_2 C h
  · have hp := Nat.mod_lt x (by omega : 0 < q)
    have hp8 : x % q < 8 := by omega
    obtain ⟨m1, e1, p1⟩ := f9_heave (p := x % q) h C.g hq hq8 hp hV hN1 (by omega)
    obtain ⟨m2, e2, p2⟩ := f9_days0 p1 (by simp) C.g hV hN1 (by omega) (by omega)
    have e3 := V_pipe (j := 2) p2.1 (by rw [go_198]; exact hq) hq8 hp (by omega)
    rw [show 156 + 5 * (x % q) + 2 = 158 + 5 * (x % q) by omega] at e3
    have e3' : f_L_pipeOf m2 (nI (x % q)) 2 = _ := e3
    obtain ⟨v, m3, e4, v14, p3⟩ := f9_undo p2
    rw [if_neg (fun y => h0 ((cle0 (by omega)).mp y)), if_neg i10, Option.bind_some, nL_32 (by omega), if_neg (nI_ne0 (by omega) (by omega)), rem_nI hx (by omega) (by omega), e1, Option.bind_some, e2, Option.bind_some, if_neg (nlt0 (by have := ac_le (S_go r (-nI V) 0 N); omega)), e3', Option.bind_some, if_pos (ceq_s _), e4, Option.bind_some, if_neg (nlt0 (by omega))]
    exact fo_2 C p3
theorem fo_9 {μ0 μ : Mem} {r : Row} {W : Int64} {d m s V x N n : Nat} {g g1 g2 : Row} (C : C9 μ0 r W d) (D : D9 r d m s V x) (hN1 : 1 ≤ N) (hN : N ≤ 9) (h : F9 μ0 g [g2, g1, enc r] μ) : Yes9 μ0 (fl_L_follows (nI x) (n + 3) 9 μ 0 (nI N) 0 0 0 (nI V) 0 0 W 0) := by
  have hnow : ∀ m : Mem, m 0 = enc r → f_L_now m = some W := fun m hm => by rw [now_congr (hm.trans C.n0.symm), C.w]
  obtain ⟨v1, m1, e1, l1, p1⟩ := f9_undo h
  obtain ⟨v2, m2, e2, l2, p2⟩ := f9_undo p1
  obtain ⟨v3, m3, e3, l3, p3⟩ := f9_undo p2
  show Yes9 μ0 (fb_L_follows_9 (nI x) (fl_L_follows (nI x) (n + 2)) μ 0 (nI N) 0 0 0 (nI V) 0 0 W 0)
  unfold fb_L_follows_9
  rw [e1, Option.bind_some, if_neg (nlt0 (by omega)), e2, Option.bind_some, if_neg (nlt0 (by omega)), e3, Option.bind_some, if_neg (nlt0 (by omega)), hnow m3 p3.1, Option.bind_some, if_pos (ceq_s W)]
  exact fo_8 C D hN1 hN p3
theorem fo_7 {μ0 μ : Mem} {r : Row} {W : Int64} {d m s V x N n b : Nat} (C : C9 μ0 r W d) (D : D9 r d m s V x) (hN1 : 1 ≤ N) (hN : N ≤ 9) (hb : b ≤ 20) (h1 : bfn r s (-nI V) 3 N b ≤ bfn r s (-nI V) 3 N 0) (h2 : b = 0 ∨ bfn r s (-nI V) 3 N b < bfn r s (-nI V) 3 N 0)
    (h : F9 μ0 (enc (S_go (bfr r s b) (-nI V) 3 N)) [enc (bfr r s b), enc r] μ) : Yes9 μ0 (fl_L_follows (nI x) (n + 4) 7 μ 1 (nI N) (nI b) 0 (nI s) (nI V) 0 0 W 0) := by
  have hV := neg_t D.v1 D.v3
  have hd := D.d8
  have hm4 := D.m4
  have hs := D.sm
  have hs4 : s < 4 := by omega
  have f1 : bfn r s (-nI V) 3 N b ≤ 30 := cf_le _ _ _
  have f0 : bfn r s (-nI V) 3 N 0 ≤ 30 := cf_le _ _ _
  have gb : ∀ k, k ≤ 20 → gd 9999 d (bfr r s k) := fun k hk => gd_bfr C.g hs4 hk
  have mb : ∀ k, bfr r s k 196 = nI m := fun k => by rw [bfr_196 hs4]; exact D.m6
  obtain ⟨v1, m1, e1, l1, p1⟩ := f9_undo h
  obtain ⟨m2, e2, p2⟩ := f9_fence (k := 0) p1 (by simp) (gb b hb) (mb b) hm4 hs (by omega)
  rw [bfr_two] at p2
  rw [bfr_at] at e2
  have e2' : f_L_fence m1 (nI s) 0 = some ((nI b).toInt64, m2) := e2
  obtain ⟨m3, e3, p3⟩ := f9_days3 p2 (by simp) (gb 0 (by omega)) hV hN1 (by omega) (by omega)
  have s1 := V_s5 h.1 (by rw [go_196]; exact mb b) hm4 hs
  have s0 := V_s5 p3.1 (by rw [go_196]; exact mb 0) hm4 hs
  have s1' : f_L_siteOf μ (nI s) 5 = some (nL (bfn r s (-nI V) 3 N b)) := s1
  have s0' : f_L_siteOf m3 (nI s) 5 = some (nL (bfn r s (-nI V) 3 N 0)) := s0
  show Yes9 μ0 (fb_L_follows_7 (nI x) (fl_L_follows (nI x) (n + 3)) μ 1 (nI N) (nI b) 0 (nI s) (nI V) 0 0 W 0)
  unfold fb_L_follows_7
  rw [s1', Option.bind_some, if_neg i10, e1, Option.bind_some, if_neg (nlt0 (by omega)), e2', Option.bind_some, if_pos (ceq_s _), e3, Option.bind_some, if_neg (nlt0 (by have := ac_le (S_go (bfr r s 0) (-nI V) 3 N); omega)), s0', Option.bind_some, if_neg (fun y => by rw [clt (by omega) (by omega)] at y; omega)]
  by_cases hb0 : b = 0
  · subst hb0
    rw [if_pos (show nI 0 = (0 : Int32) from rfl)]
    exact fo_9 C D hN1 hN p3
  · have h3 : bfn r s (-nI V) 3 N b < bfn r s (-nI V) 3 N 0 := h2.resolve_left hb0
    rw [if_neg (nI_ne0 (by omega) (by omega)), Option.bind_some, if_neg (fun y => by rw [cle (by omega) (by omega)] at y; omega)]
    exact fo_9 C D hN1 hN p3
theorem fo_5 {μ0 μ : Mem} {r : Row} {W : Int64} {d m s V x n : Nat} (C : C9 μ0 r W d) (D : D9 r d m s V x) (h : F9 μ0 (enc r) [] μ) : Yes9 μ0 (fl_L_follows (nI x) (n + 5) 5 μ 1 0 0 0 (nI s) (nI V) 0 0 W 0) := by
  have hV := neg_t D.v1 D.v3
  have hx := D.x3
  have hd := D.d8
  have hm4 := D.m4
  have hs := D.sm
  have hs4 : s < 4 := by omega
  have eN : (1 : Int32) + (nI x - (nI x / 9) * 9) = nI (1 + x % 9) := by
    rw [show nI x - nI x / 9 * 9 = nI (x % 9) from rem_nI (k := 9) hx (by omega) (by omega)]
    exact add_nI 1 _
  obtain ⟨b, m1, e1, p1, hb, h1, h2⟩ := f9_best (w' := 3) (n' := 1 + x % 9) h C.g D.m6 hm4 hs hV (by omega) (by omega) (by omega)
  have e1' : f_L_bestFence μ (nI s) (-nI V) 3 (nI (1 + x % 9)) = some (nL b, m1) := e1
  obtain ⟨m2, e2, p2⟩ := f9_fence (k := b) p1 (by simp) C.g D.m6 hm4 hs hb
  obtain ⟨m3, e3, p3⟩ := f9_days3 (n' := 1 + x % 9) p2 (by simp) (gd_bfr C.g hs4 hb) hV (by omega) (by omega) (by omega)
  have hin : f_L_in (nL b) 0 20 = some 1 := by
    unfold f_L_in
    rw [if_neg (nlt0 (by omega)), if_neg (fun y => by rw [show (20 : Int64) = nL 20 from rfl, cgt (by omega) (by omega)] at y; omega)]
  show Yes9 μ0 (fb_L_follows_5 (nI x) (fl_L_follows (nI x) (n + 4)) μ 1 0 0 0 (nI s) (nI V) 0 0 W 0)
  unfold fb_L_follows_5
  rw [eN, e1', Option.bind_some, nL_32 (by omega), e2, Option.bind_some, if_neg i10, nI_L (by omega), hin, Option.bind_some, if_neg i10, e3, Option.bind_some, if_neg (nlt0 (by have := ac_le (S_go (bfr r s b) (-nI V) 3 (1 + x % 9)); omega))]
  exact fo_7 C D (by omega) (by omega) hb h1 h2 p3
theorem fo_6 {μ0 μ : Mem} {r : Row} {W w7 : Int64} {d m s V x n : Nat} (C : C9 μ0 r W d) (D : D9 r d m s V x) (h7 : lg_cmp w7 0 = 0 → cf (fR r s) 0 30 = 0) (h : F9 μ0 (enc r) [] μ) : Yes9 μ0 (fl_L_follows (nI x) (n + 6) 6 μ 0 0 0 0 (nI s) (nI V) 0 0 W w7) := by
  have s1 := V_s5 h.1 D.m6 D.m4 D.sm
  show Yes9 μ0 (fb_L_follows_6 (nI x) (fl_L_follows (nI x) (n + 5)) μ 0 0 0 0 (nI s) (nI V) 0 0 W w7)
  unfold fb_L_follows_6
  by_cases c : lg_cmp w7 0 = 0
  · rw [h7 c] at s1
    rw [if_pos c, s1, Option.bind_some, if_pos (show lg_cmp (nL 0) 0 = 0 from ceq_s (nL 0))]
    exact fo_5 C D h
  · rw [if_neg c]
    exact fo_5 C D h
theorem fo_4 {μ0 μ : Mem} {r : Row} {W w7 w10 : Int64} {d m s V x c n : Nat} (C : C9 μ0 r W d) (D : D9 r d m s V x) (hc : c < 30) (h7 : lg_cmp w7 0 = 0 → cf (fR r s) 0 30 = 0) (h10 : lg_cmp w10 0 = 0 → fR r s c = true) (h : F9 μ0 (enc r) [] μ) : Yes9 μ0 (fl_L_follows (nI x) (n + 7) 4 μ 0 0 0 1 (nI s) (nI V) (nI c) w10 W w7) := by
  have hd := D.d8
  show Yes9 μ0 (fb_L_follows_4 (nI x) (fl_L_follows (nI x) (n + 6)) μ 0 0 0 1 (nI s) (nI V) (nI c) w10 W w7)
  unfold fb_L_follows_4
  rw [if_neg i10]
  by_cases e : lg_cmp w10 0 = 0
  · obtain ⟨q, q1, q2, _, q4⟩ := V_since1 h.1 C.g D.m6 D.m4 D.sm hc (h10 e)
    rw [if_pos e, q4, Option.bind_some, if_neg (nle0 (by omega) q1)]
    exact fo_6 C D h7 h
  · rw [if_neg e]
    exact fo_6 C D h7 h
theorem m1_le0 : lg_cmp (-1 : Int64) 0 ≤ 0 := by rw [lg_cmp_le]; decide
theorem m1_ne0 : ¬ lg_cmp (-1 : Int64) 0 = 0 := by rw [lg_cmp_eq]; decide
theorem fo_3 {μ0 μ : Mem} {r : Row} {W w7 : Int64} {d m s V x n : Nat} (C : C9 μ0 r W d) (D : D9 r d m s V x) (h7 : lg_cmp w7 0 = 0 → cf (fR r s) 0 30 = 0) (h : F9 μ0 (enc r) [] μ) : Yes9 μ0 (fl_L_follows (nI x) (n + 8) 3 μ 0 0 0 1 (nI s) (nI V) 0 0 W w7) := by
  have hV := neg_t D.v1 D.v3
  have hx := D.x3
  have hd := D.d8
  have hm4 := D.m4
  have hs := D.sm
  have hs4 : s < 4 := by omega
  have ec : nI x / 7 - nI x / 7 / 30 * 30 = nI (x / 7 % 30) := by
    rw [show nI x / 7 = nI (x / 7) from pk_div (d := 7) hx (by omega) (by omega)]
    exact rem_nI (k := 30) (by omega) (by omega) (by omega)
  have hc : x / 7 % 30 < 30 := Nat.mod_lt _ (by omega)
  obtain ⟨w, m1, e1, p1, hw⟩ := f9_reach (c := x / 7 % 30) h C.g D.m6 hm4 hs hc D.v1 D.v3
  show Yes9 μ0 (fb_L_follows_3 (nI x) (fl_L_follows (nI x) (n + 7)) μ 0 0 0 1 (nI s) (nI V) 0 0 W w7)
  unfold fb_L_follows_3
  rw [ec, e1, Option.bind_some]
  rcases hw with rfl | ⟨e, e4, rfl, hf, hb⟩
  · rw [if_pos m1_le0]
    exact fo_4 C D hc h7 (fun y => absurd y m1_ne0) p1
  · by_cases e0 : e = 0
    · subst e0
      rw [if_pos ((cle0 (by omega)).mpr (Nat.le_refl 0))]
      exact fo_4 C D hc h7 (fun _ => hf) p1
    · have hne : ¬ lg_cmp (nL e) 0 = 0 := fun y => e0 ((ceq0 (by omega)).mp y)
      rw [if_neg (nle0 (by omega) (by omega))]
      by_cases e6 : 60 < e
      · rw [if_pos (show 0 < lg_cmp (nL e) 60 from (cgt (b := 60) (by omega) (by omega)).mpr e6)]
        exact fo_4 C D hc h7 (fun y => absurd y hne) p1
      · obtain ⟨e', rfl⟩ : ∃ e', e = e' + 1 := ⟨e - 1, by omega⟩
        have hsc : s < sc (S_go r (-nI V) 0 e') := by rw [go_sc, sc_of D.m6 hm4]; exact hs
        have hsc2 : s < sc (S_go r (-nI V) 0 (e' + 1)) := by rw [go_sc, sc_of D.m6 hm4]; exact hs
        have hg2 := (days_ok C.g hV (by omega : 0 ≤ 30) (by omega : 1 ≤ e' + 1) (by omega) (by omega)).2.2
        have hg2' : gd 9999 (d + (e' + 1)) (S_go r (-nI V) 0 (e' + 1)) := hg2
        have hac : 0 < ac (S_go r (-nI V) 0 (e' + 1)) := Nat.lt_of_lt_of_le (cf_pos 30 0 (x / 7 % 30) (by omega) (by omega) hf) (ac_ge hsc2)
        have hac2 := ac_le (S_go r (-nI V) 0 (e' + 1))
        have hnew := new_day (t := -nI V) (w := 0) hsc hc (hb e' (by omega)) (by rw [← go_succ]; exact hf)
        rw [← go_succ, hg2'.2.1] at hnew
        obtain ⟨m2, e2, p2⟩ := f9_days0 (n' := e' + 1) p1 (by simp) C.g hV (by omega) (by omega) (by omega)
        obtain ⟨q, q1, q2, q3, q4⟩ := V_since1 p2.1 hg2' (by rw [go_196]; exact D.m6) hm4 hs hc hf
        rw [q3, eq_nI (by omega) (by omega)] at hnew
        subst hnew
        obtain ⟨v, m3, e3, v14, p3⟩ := f9_undo p2
        rw [if_neg (show ¬ 0 < lg_cmp (nL (e' + 1)) 60 from fun y => e6 ((cgt (b := 60) (by omega) (by omega)).mp y)), if_neg i10, nL_32 (by omega), e2, Option.bind_some, if_neg (nle0 (by omega) hac), q4, Option.bind_some, V_ab3 p2.1 hg2', Option.bind_some, if_pos (ceq_s _), e3, Option.bind_some, if_neg (nlt0 (by omega))]
        exact fo_4 C D hc h7 (fun y => absurd y hne) p3
theorem fo_1 {μ0 μ : Mem} {r : Row} {W : Int64} {d x n : Nat} (C : C9 μ0 r W d) (hx : x < 2147483648) (h : F9 μ0 (enc r) [] μ) : Yes9 μ0 (fl_L_follows (nI x) (n + 9) 1 μ 1 0 0 0 0 0 0 0 W 0) := by
  obtain ⟨m, hm, hm4⟩ := inv_196 C.g.1
  have hd9 := C.g.2.2.1
  show Yes9 μ0 (fb_L_follows_1 (nI x) (fl_L_follows (nI x) (n + 8)) μ 1 0 0 0 0 0 0 0 W 0)
  unfold fb_L_follows_1
  rw [V_ab0 h.1 hm hm4, Option.bind_some]
  by_cases h0 : m ≤ 0
  · rw [if_pos ((cle0 (by omega)).mpr h0)]
    exact fo_2 C h
  rw [if_neg (fun y => h0 ((cle0 (by omega)).mp y)), V_ab3 h.1 C.g, Option.bind_some]
  by_cases h8 : 9800 ≤ d
  · rw [if_pos (show 0 ≤ lg_cmp (nL d) 9800 from (cge (b := 9800) (by omega) (by omega)).mpr h8)]
    exact fo_2 C h
  have hs := Nat.mod_lt x (by omega : 0 < m)
  have D : D9 r d m (x % m) (1 + x % 30) x := ⟨hm, hm4, hs, by omega, by omega, by omega, hx⟩
  have eV : (1 : Int32) + (nI x - nI x / 30 * 30) = nI (1 + x % 30) := by
    rw [show nI x - nI x / 30 * 30 = nI (x % 30) from rem_nI (k := 30) hx (by omega) (by omega)]
    exact add_nI 1 _
  have hV := pos_t D.v3
  obtain ⟨w, m1, e1, p1, hw⟩ := f9_gone (t := 1 + x % 30) h C.g hm hm4 hs D.v1 D.v3
  rw [if_neg (show ¬ 0 ≤ lg_cmp (nL d) 9800 from fun y => h8 ((cge (b := 9800) (by omega) (by omega)).mp y)), if_neg i10, Option.bind_some, nL_32 (by omega), if_neg (nI_ne0 (by omega) (by omega)), rem_nI hx (by omega) (by omega), eV, e1, Option.bind_some]
  rcases hw with rfl | ⟨e, e4, rfl, hf, hb⟩
  · rw [if_pos m1_le0]
    exact fo_3 C D (fun y => absurd y m1_ne0) p1
  by_cases e0 : e = 0
  · subst e0
    rw [if_pos ((cle0 (by omega)).mpr (Nat.le_refl 0))]
    exact fo_3 C D (fun _ => hf) p1
  have hne : ¬ lg_cmp (nL e) 0 = 0 := fun y => e0 ((ceq0 (by omega)).mp y)
  rw [if_neg (nle0 (by omega) (by omega))]
  by_cases e6 : 60 < e
  · rw [if_pos (show 0 < lg_cmp (nL e) 60 from (cgt (b := 60) (by omega) (by omega)).mpr e6)]
    exact fo_3 C D (fun y => absurd y hne) p1
  obtain ⟨m2, e2, p2⟩ := f9_days0 (n' := e) p1 (by simp) C.g hV (by omega) (by omega) (by omega)
  have s2 := V_s5 p2.1 (by rw [go_196]; exact hm) hm4 hs
  rw [hf] at s2
  have hac2 := ac_le (S_go r (nI (1 + x % 30)) 0 e)
  obtain ⟨v, m3, e3, v14, p3⟩ := f9_undo p2
  rw [if_neg (show ¬ 0 < lg_cmp (nL e) 60 from fun y => e6 ((cgt (b := 60) (by omega) (by omega)).mp y)), nL_32 (by omega), e2, Option.bind_some, if_neg (nlt0 (by omega)), s2, Option.bind_some, if_pos (show lg_cmp (nL 0) 0 = 0 from ceq_s (nL 0)), e3, Option.bind_some, if_neg (nlt0 (by omega))]
  by_cases e11 : e = 1
  · subst e11
    rw [if_pos (show lg_cmp (nL 1) 1 = 0 from ceq_s (nL 1))]
    exact fo_3 C D (fun y => absurd y hne) p3
  have hcf := hb (e - 1) (by omega)
  have hcl := cf_le (fR (S_go r (nI (1 + x % 30)) 0 (e - 1)) (x % m)) 30 0
  have hsc2 : x % m < sc (S_go r (nI (1 + x % 30)) 0 (e - 1)) := by rw [go_sc, sc_of hm hm4]; exact hs
  have hac : 0 < ac (S_go r (nI (1 + x % 30)) 0 (e - 1)) := Nat.lt_of_lt_of_le hcf (ac_ge hsc2)
  have hac3 := ac_le (S_go r (nI (1 + x % 30)) 0 (e - 1))
  obtain ⟨m4, e5, p4⟩ := f9_days0 (n' := e - 1) p3 (by simp) C.g hV (by omega) (by omega) (by omega)
  have s4 := V_s5 p4.1 (by rw [go_196]; exact hm) hm4 hs
  obtain ⟨v', m5, e7, v14', p5⟩ := f9_undo p4
  rw [if_neg (show ¬ lg_cmp (nL e) 1 = 0 from fun y => e11 ((ceq (b := 1) (by omega) (by omega)).mp y)), show nI e - 1 = nI (e - 1) from sub_nI (b := 1) (by omega), e5, Option.bind_some, if_neg (nle0 (by omega) hac), s4, Option.bind_some, if_neg (nle0 (by omega) hcf), e7, Option.bind_some, if_neg (nlt0 (by omega))]
  exact fo_3 C D (fun y => absurd y hne) p5
