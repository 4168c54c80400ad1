/-! kept: its loops, and its answer -/
theorem cf_all {p : Nat → Bool} {c : Nat} : ∀ t, (∀ i, c ≤ i → i < c + t → p i = true) → cf p 0 (c + t) = cf p 0 c + t
  | 0, _ => rfl
  | t + 1, h => by
    have ih := cf_all t (fun i h1 h2 => h i h1 (by omega))
    rw [show c + (t + 1) = c + t + 1 by omega, cf_step (h (c + t) (by omega) (by omega)), ih]
    omega
theorem bgn_p {p : Nat → Bool} {c : Nat} (h : bgn p c = true) : p c = true ∧ (c = 0 ∨ p (c - 1) = false) := by
  unfold bgn at h
  cases hp : p c with
  | false => rw [hp] at h; cases h
  | true =>
    refine ⟨rfl, ?_⟩
    by_cases h0 : c = 0
    · exact Or.inl h0
    · rw [hp, decide_eq_true (by omega : 0 < c)] at h
      cases hq : p (c - 1) with
      | false => exact Or.inr rfl
      | true => rw [hq] at h; cases h
theorem bgn_uniq {p : Nat → Bool} {c e : Nat} (hc : bgn p c = true) (he : bgn p e = true) (h : cf (bgn p) 0 c = cf (bgn p) 0 e) : c = e := by
  by_cases h1 : c < e
  · have := cf_mono (bgn p) (show c + 1 ≤ e by omega)
    rw [cf_step hc] at this
    omega
  · by_cases h2 : e < c
    · have := cf_mono (bgn p) (show e + 1 ≤ c by omega)
      rw [cf_step he] at this
      omega
    · omega
theorem sf_last (f : Nat → Nat) : ∀ m k, sf f k (m + 1) = sf f k m + f (k + m)
  | 0, k => by simp [sf]
  | m + 1, k => by
    have ih := sf_last f m (k + 1)
    show f k + sf f (k + 1) (m + 1) = f k + sf f (k + 1) m + f (k + (m + 1))
    rw [ih, show k + 1 + m = k + (m + 1) by omega]
    omega
theorem sf_ge {f : Nat → Nat} {b : Nat} : ∀ m, b < m → f b ≤ sf f 0 m
  | 0, h => absurd h (Nat.not_lt_zero b)
  | m + 1, h => by
    rw [sf_last, Nat.zero_add]
    by_cases e : b = m
    · subst e; omega
    · have := sf_ge (f := f) (b := b) m (by omega)
      omega
/-- what kept asks of: an object whose ground is r -/
def KX9 (μ : Mem) (r : Row) (d m : Nat) : Prop := μ 0 = enc r ∧ gd 9999 d r ∧ J d r ∧ r 196 = nI m ∧ m ≤ 4
theorem kept_l7 {μ : Mem} {c b : Nat} {v1 v10 v11 v2 v6 v7 : Int32} {w16 w3 o : Int64} (hcb : c + b < 100) (ho : f_L_layerOf μ v6 v11 3 = some o) (hs : ∀ i, c ≤ i → i < c + b → ∃ x, f_L_since μ v6 (nI i) = some x ∧ o ≤ x) :
    ∀ t i n, i + t = c + b → c ≤ i → k7 μ (n + t) v1 v10 v11 (nI i) v2 v6 v7 (nL c) (nL b) w16 w3 = k7 μ n v1 v10 v11 (nI (c + b)) v2 v6 v7 (nL c) (nL b) w16 w3
  | 0, i, n, h, _ => by rw [show i = c + b by omega]; rfl
  | t + 1, i, n, h, hi => by
    obtain ⟨x, h1, h2⟩ := hs i hi (by omega)
    rw [show n + (t + 1) = (n + t) + 1 by omega, s7_in (by omega) hcb h1 ho h2]
    exact kept_l7 hcb ho hs t (i + 1) n (by omega) (by omega)
theorem kept_l3 {μ : Mem} {r : Row} {d m z : Nat} {v1 v2 : Int32} {w3 : Int64} (hk : KX9 μ r d m) (hz : z < m) : ∀ t q pos n w8, q + t = cf (bgn (fR r z)) 0 30 →
    ((q < cf (bgn (fR r z)) 0 30 ∧ pos < 30 ∧ bgn (fR r z) pos = true ∧ cf (bgn (fR r z)) 0 pos = q ∧ (q = 0 ∨ w8 = nL pos)) ∨ (q = cf (bgn (fR r z)) 0 30 ∧ cf (fR r z) 0 pos = cf (fR r z) 0 30)) → 7 * t + (30 - pos) ≤ n →
    ∃ n' w8', n ≤ n' + (7 * t + (30 - pos)) ∧ k3 μ n v1 (nI (cf (fR r z) 0 pos)) (nI q) v2 (nI z) (nI (cf (bgn (fR r z)) 0 30)) w3 w8 = k3 μ n' v1 (nI (cf (fR r z) 0 30)) (nI (cf (bgn (fR r z)) 0 30)) v2 (nI z) (nI (cf (bgn (fR r z)) 0 30)) w3 w8'
  | 0, q, pos, n, w8, hq, hp, _ => by
    rcases hp with ⟨h1, _⟩ | ⟨h1, h2⟩
    · omega
    · exact ⟨n, w8, by omega, by rw [h2, h1]⟩
  | t + 1, q, pos, n, w8, hq, hp, hn => by
    obtain ⟨k1, k2, k3', k4, k5⟩ := hk
    have hN := cf_le (bgn (fR r z)) 30 0
    rcases hp with ⟨h1, hpos, h2, h3, h4⟩ | ⟨h1, h2⟩
    · obtain ⟨c, e, g, o, c1, c2, c3, c4, c5, c6, c7, c8, l0, l1, l2, l3⟩ := V_layer k1 k4 k5 hz h1
      have e1 : c = pos := bgn_uniq c3 h2 (c4.trans h3.symm)
      subst e1
      obtain ⟨b, rfl⟩ : ∃ b, e = c + b := ⟨e - c, by omega⟩
      rw [show c + b - c = b by omega] at l1
      obtain ⟨p1, p2⟩ := bgn_p c3
      have hcnt := cf_all b c5
      have hgN : 0 < g ↔ q + 1 < cf (bgn (fR r z)) 0 30 := by
        rcases c7 with ⟨g0, gN, _⟩ | ⟨g0, _, _, _, gN, _⟩
        · omega
        · omega
      have hg30 : g < 100 := by
        rcases c7 with ⟨g0, _⟩ | ⟨_, g0, _⟩
        · omega
        · omega
      obtain ⟨n0, rfl⟩ : ∃ n0, n = n0 + 3 + b + 4 := ⟨n - 7 - b, by omega⟩
      rw [s3_in h1 hN (by omega) (by omega) (by omega) hg30 hgN h4 l0 l1 l2]
      have hs : ∀ i, c ≤ i → i < c + b → ∃ x, f_L_since μ (nI z) (nI i) = some x ∧ o.toInt64 ≤ x := fun i i1 i2 => by
        obtain ⟨s1, _, _, s4, s5⟩ := V_since1 k1 k2 k4 k5 hz (by omega : i < 30) (c5 i i1 i2)
        refine ⟨_, s5, ?_⟩
        have h5 := c8 i i1 i2
        rw [s4] at h5
        rw [← nI_L (by
          have hd := k2.2.2.1
          omega), i64_le]
        exact h5
      rw [kept_l7 (by omega) l3 hs b c (n0 + 3) rfl (Nat.le_refl c)]
      rw [s7_end (by omega) (by omega) c2 (by
        rcases p2 with p2 | p2
        · exact Or.inl p2
        · by_cases c0 : c = 0
          · exact Or.inl c0
          · exact Or.inr (V_since0 k1 k4 k5 hz (by omega) p2)) (by
        by_cases c0 : c + b = 30
        · exact Or.inl c0
        · exact Or.inr (V_since0 k1 k4 k5 hz (by omega) (c6 (by omega)))), add_nI, ← hcnt]
      have hflat : cf (fR r z) 0 (c + b + g) = cf (fR r z) 0 (c + b) := cf_flat (by omega) (fun i i1 i2 => by
        rcases c7 with ⟨g0, _⟩ | ⟨_, _, _, _, _, g6⟩
        · omega
        · exact g6 i i1 i2)
      rw [← hflat]
      obtain ⟨n', w8', r1, r2⟩ := kept_l3 (v1 := v1) (v2 := v2) (w3 := w3) (⟨k1, k2, k3', k4, k5⟩ : KX9 μ r d m) hz t (q + 1) (c + b + g) n0 (nL (c + b + g)) (by omega) (by
        rcases c7 with ⟨g0, g1, g2⟩ | ⟨g0, g1, g2, g3, g4, g5⟩
        · refine Or.inr ⟨g1, ?_⟩
          subst g0
          rw [Nat.add_zero]
          exact (cf_flat c2 g2).symm
        · exact Or.inl ⟨g4, g1, g2, g3, Or.inr rfl⟩) (by omega)
      exact ⟨n', w8', by omega, r2⟩
    · omega
theorem kept_l6 {μ : Mem} {r : Row} {d m z : Nat} {v1 v10 v2 v7 : Int32} {w3 : Int64} (hk : KX9 μ r d m) (hz : z < m) : ∀ t i n, i + t = 30 →
    k6 μ (n + 2 * t) v1 v10 (nI (cf (fR r z) 0 i)) (nI i) v2 (nI z) v7 w3 = k6 μ n v1 v10 (nI (cf (fR r z) 0 30)) (nI 30) v2 (nI z) v7 w3
  | 0, i, n, h => by rw [show i = 30 by omega]; rfl
  | t + 1, i, n, h => by
    obtain ⟨k1, k2, k3', k4, k5⟩ := hk
    have hc := cf_le (fR r z) i 0
    have hd := k2.2.2.1
    have key : ∃ q, q ≤ d ∧ f_L_since μ (nI z) (nI i) = some (if fR r z i then nL q else -1) := by
      cases hf : fR r z i with
      | true =>
        obtain ⟨q, _, s2, _, s5⟩ := V_since1 k1 k2 k4 k5 hz (by omega : i < 30) hf
        exact ⟨q, s2, by rw [s5, if_pos rfl]⟩
      | false => exact ⟨0, Nat.zero_le d, by rw [V_since0 k1 k4 k5 hz (by omega) hf, if_neg (by decide)]⟩
    obtain ⟨q, q1, q2⟩ := key
    rw [show n + 2 * (t + 1) = (n + 2 * t) + 2 by omega, s6_in (by omega) (by omega) (V_ab3 k1 k2) hd q1 q2]
    have e : cf (fR r z) 0 i + (if fR r z i then 1 else 0) = cf (fR r z) 0 (i + 1) := by
      rw [cf_last, Nat.zero_add]
    rw [e]
    exact kept_l6 (⟨k1, k2, k3', k4, k5⟩ : KX9 μ r d m) hz t (i + 1) n (by omega)
theorem fbgn {p : Nat → Bool} : ∀ j, p j = true → ∃ i, i ≤ j ∧ bgn p i = true
  | 0, h => ⟨0, Nat.le_refl 0, by
    unfold bgn
    rw [h]
    rfl⟩
  | j + 1, h => by
    cases hq : p j with
    | true =>
      obtain ⟨i, i1, i2⟩ := fbgn (p := p) j hq
      exact ⟨i, by omega, i2⟩
    | false =>
      refine ⟨j + 1, Nat.le_refl _, ?_⟩
      unfold bgn
      rw [h, Nat.add_sub_cancel, hq, Bool.and_false]
      rfl
theorem k_site {μ : Mem} {r : Row} {d m z C A n : Nat} (hk : KX9 μ r d m) (hz : z < m) (hn : 310 ≤ n) :
    ∃ n', n ≤ n' + 310 ∧ k1 μ n (nI C) (nI A) (nI z) 0 = k1 μ n' (nI (C + cf (fR r z) 0 30)) (nI (A + cf (bgn (fR r z)) 0 30)) (nI (z + 1)) 0 := by
  have hk0 := hk
  obtain ⟨h1, h2, h3, h4, h5⟩ := hk
  have hN := cf_le (bgn (fR r z)) 30 0
  have hF := cf_le (fR r z) 30 0
  have hd := h2.2.2.1
  obtain ⟨n0, rfl⟩ : ∃ n0, n = n0 + 1 := ⟨n - 1, by omega⟩
  rw [s1_in (V_ab0 h1 h4 h5) hz h5 (V_layers0 h1 h4 h5 hz) hN]
  have hfirst : ∃ pos, ((0 < cf (bgn (fR r z)) 0 30 ∧ pos < 30 ∧ bgn (fR r z) pos = true ∧ cf (bgn (fR r z)) 0 pos = 0 ∧ (0 = 0 ∨ (0 : Int64) = nL pos)) ∨ (0 = cf (bgn (fR r z)) 0 30 ∧ cf (fR r z) 0 pos = cf (fR r z) 0 30)) ∧ cf (fR r z) 0 pos = 0 := by
    by_cases hp : 0 < cf (bgn (fR r z)) 0 30
    · obtain ⟨c, c1, c2, c3⟩ := nth_ex (bgn (fR r z)) 30 0 hp
      refine ⟨c, Or.inl ⟨hp, c1, c2, c3, Or.inl rfl⟩, ?_⟩
      refine cf_zero c 0 (fun j _ hj => ?_)
      cases hh : fR r z j with
      | false => rfl
      | true =>
        exfalso
        obtain ⟨i, i1, i2⟩ := fbgn (p := fR r z) j hh
        have h6 := cf_mono (bgn (fR r z)) (show i + 1 ≤ c by omega)
        rw [cf_step i2] at h6
        omega
    · refine ⟨0, Or.inr ⟨by omega, ?_⟩, rfl⟩
      have : cf (fR r z) 0 30 = 0 := cf_zero 30 0 (fun j _ hj => by
        cases hh : fR r z j with
        | false => rfl
        | true =>
          exfalso
          obtain ⟨i, i1, i2⟩ := fbgn (p := fR r z) j hh
          have h6 := cf_mono (bgn (fR r z)) (show i + 1 ≤ 30 by omega)
          rw [cf_step i2] at h6
          omega)
      rw [this]
      rfl
  obtain ⟨pos, hp1, hp2⟩ := hfirst
  obtain ⟨n1, w8, r1, r2⟩ := kept_l3 (v1 := nI C) (v2 := nI A) (w3 := 0) hk0 hz (cf (bgn (fR r z)) 0 30) 0 pos n0 0 (by omega) hp1 (by omega)
  rw [hp2] at r2
  rw [show (0 : Int32) = nI 0 from rfl, r2]
  obtain ⟨n2, rfl⟩ : ∃ n2, n1 = n2 + 4 + 2 * 30 + 1 := ⟨n1 - 65, by omega⟩
  rw [s3_end]
  have h6 := kept_l6 (v1 := nI C) (v10 := nI (cf (fR r z) 0 30)) (v2 := nI A) (v7 := nI (cf (bgn (fR r z)) 0 30)) (w3 := 0) hk0 hz 30 0 (n2 + 4) (by omega)
  rw [show cf (fR r z) 0 0 = 0 from rfl] at h6
  rw [show (0 : Int32) = nI 0 from rfl, h6]
  obtain ⟨a, b, a1, b1, a2, b2, ab⟩ := h3.1 z (by omega)
  obtain ⟨w, w1, _, w3⟩ := inv_at h2.1 (bq_s0 (by omega : z < 4))
  have w3' : w ≤ 99 := w3
  have e5 := V_site (j := 5) h1 h4 h5 hz (by omega) (N_5 (by omega))
  have e6 := V_site (j := 6) h1 h4 h5 hz (by omega) (N_6 (by omega))
  have e7 := V_site (j := 7) h1 h4 h5 hz (by omega) (N_7 (by omega))
  have e0 := V_site (j := 0) h1 h4 h5 hz (by omega) (N_j (by omega))
  have e2 := V_site (j := 2) h1 h4 h5 hz (by omega) (N_j (by omega))
  have e3 := V_site (j := 3) h1 h4 h5 hz (by omega) (N_j (by omega))
  rw [nI_L (by omega)] at e5 e6
  rw [show 35 * z + 0 = 35 * z from rfl, w1, nI_L (by omega)] at e0
  rw [a1, nI_L (by omega)] at e2
  rw [b1, nI_L (by omega)] at e3
  rw [s6_end hF hN w3' (by omega) (by omega) ab (cf_ld (fR r z) 30 (by omega)).symm e5 (V_layers1 h1 h4 h5 hz) e6 e0 e2 e3 e7, add_nI, add_nI]
  exact ⟨n2, by omega, rfl⟩
theorem kept_n {a b c e f : Nat} (h1 : a ≤ b + 310) (h2 : b ≤ c + e + 1) (h3 : f = e + 310) : a ≤ c + f + 1 := by omega
theorem kept_l1 {μ : Mem} {r : Row} {d m : Nat} (hk : KX9 μ r d m) : ∀ t z n, z + t = m → 310 * t + 1 ≤ n →
    ∃ n', n ≤ n' + 310 * t + 1 ∧ k1 μ n (nI (sf (fun s => cf (fR r s) 0 30) 0 z)) (nI (sf (fun s => cf (bgn (fR r s)) 0 30) 0 z)) (nI z) 0 = k2 μ n' (nI (sf (fun s => cf (fR r s) 0 30) 0 m)) (nI (sf (fun s => cf (bgn (fR r s)) 0 30) 0 m)) 0 0
  | 0, z, n, h, hn => by
    have e : z = m := by omega
    subst e
    obtain ⟨n0, rfl⟩ : ∃ n0, n = n0 + 1 := ⟨n - 1, by omega⟩
    exact ⟨n0, by omega, s1_end (V_ab0 hk.1 hk.2.2.2.1 hk.2.2.2.2) hk.2.2.2.2⟩
  | t + 1, z, n, h, hn => by
    obtain ⟨n1, r1, r2⟩ := k_site (C := sf (fun s => cf (fR r s) 0 30) 0 z) (A := sf (fun s => cf (bgn (fR r s)) 0 30) 0 z) hk (by omega : z < m) (by omega : 310 ≤ n)
    obtain ⟨n2, r3, r4⟩ := kept_l1 hk t (z + 1) n1 (by omega) (by omega)
    refine ⟨n2, kept_n r1 r3 (Nat.mul_succ 310 t), ?_⟩
    rw [r2]
    rw [sf_last, sf_last, Nat.zero_add] at r4
    exact r4
theorem kept_l2 {μ : Mem} {r : Row} {d m q : Nat} {v1 v2 : Int32} (hk : KX9 μ r d m) (hq : r 197 = nI q) (hq8 : q ≤ 8) : ∀ t i n, i + t = q → k2 μ (n + 3 * t + 1) v1 v2 (nI i) 0 = k4 μ n v1 v2 0 0
  | 0, i, n, h => by
    have e : i = q := by omega
    subst e
    exact s2_end (V_ab1 hk.1 hq hq8) hq8
  | t + 1, i, n, h => by
    obtain ⟨h1, h2, h3, h4, h5⟩ := hk
    obtain ⟨j1, j2⟩ := h3.2.1 i (by omega) (by rw [hq, lt_nI (by omega) (by omega)]; omega)
    obtain ⟨z, hz, _, hz3⟩ := inv_at h2.1 (bq_t0 (by omega : i < 8))
    obtain ⟨l, hl, _, hl30⟩ := inv_at h2.1 (bq_t1 (by omega : i < 8))
    have hz4 : z < 4 := by have : z ≤ 3 := hz3; omega
    have hl3 : l ≤ 30 := hl30
    rw [hz, h4, lt_nI (by omega) (by omega)] at j1
    rw [hl, show (1 : Int32) = nI 1 from rfl, le_nI (by omega) (by omega)] at j2
    have tv := fun (j : Nat) (hj : j ≤ 5) => V_tube h1 hq hq8 (by omega : i < q) hz hz4 hl hl3 hj
    have t0 := tv 0 (by omega)
    have t1 := tv 1 (by omega)
    have t2 := tv 2 (by omega)
    have t3 := tv 3 (by omega)
    have t4 := tv 4 (by omega)
    have t5 := tv 5 (by omega)
    rw [if_pos rfl, nI_L (by omega)] at t0
    rw [if_neg (by omega), if_pos rfl, nI_L (by omega)] at t1
    have b1 := cf_le (fR r z) l 0
    have b2 := cf_le (bgn (fR r z)) l 0
    have b3 := cf_le (fR r z) 30 0
    have b4 := cf_le (bgn (fR r z)) 30 0
    rw [if_neg (by omega), if_neg (by omega), if_pos rfl, nI_L (by omega)] at t2
    rw [if_neg (by omega), if_neg (by omega), if_neg (by omega), if_pos rfl, nI_L (by omega)] at t3
    rw [if_neg (by omega), if_neg (by omega), if_neg (by omega), if_neg (by omega), if_pos rfl] at t4
    rw [if_neg (by omega), if_neg (by omega), if_neg (by omega), if_neg (by omega), if_neg (by omega)] at t5
    have e5 := V_site (j := 5) h1 h4 h5 j1 (by omega) (N_5 (by omega))
    have e6 := V_site (j := 6) h1 h4 h5 j1 (by omega) (N_6 (by omega))
    have e7 := V_site (j := 7) h1 h4 h5 j1 (by omega) (N_7 (by omega))
    rw [nI_L (by omega)] at e5 e6
    have hld : ld (fR r z) l < nI l := by
      rcases ld_or (fR r z) l with ⟨g1, _⟩ | ⟨c, g1, g2, _⟩
      · rw [g1]; exact m1_lt (by omega)
      · rw [g2, lt_nI (by omega) (by omega)]; exact g1
    rw [show n + 3 * (t + 1) + 1 = (n + 3 * t + 1) + 3 by omega, s2_in (V_ab1 h1 hq hq8) hq8 (by omega) hl3 b1 (cf_mono (fR r z) hl3) b3 (cf_mono (bgn (fR r z)) hl3) b4 hz4 hld t0 t1 t2 t3 t4 t5 e5 e6 e7]
    exact kept_l2 (⟨h1, h2, h3, h4, h5⟩ : KX9 μ r d m) hq hq8 t (i + 1) n (by omega)
/-- a pipe's heave as a number -/
def hN (r : Row) (p : Nat) : Nat := if p < 8 then (r (158 + 5 * p)).toNatClampNeg else 0
theorem hN_le {r : Row} {d : Nat} (h : J d r) (hd : d ≤ 9999) (p : Nat) : hN r p ≤ 60000000 := by
  unfold hN
  by_cases hp : p < 8
  · rw [if_pos hp]
    obtain ⟨x, g, c, h1, h2, h3, h4, h5, h6, h7⟩ := h.2.2 p hp
    rw [h1, cl_nI (by omega)]
    omega
  · rw [if_neg hp]; omega
theorem hst_l {r : Row} {d : Nat} (h : J d r) (hd : d ≤ 9999) : ∀ m k a, k + m ≤ 8 → itr (hst r) k m (nI a) = nI (a + sf (hN r) k m)
  | 0, _, _, _ => rfl
  | m + 1, k, a, hk => by
    obtain ⟨x, g, c, h1, h2, h3, h4, h5, h6, h7⟩ := h.2.2 k (by omega)
    have e : hN r k = x := by
      unfold hN
      rw [if_pos (by omega), h1, cl_nI (by omega)]
    show itr (hst r) (k + 1) m (nI a + r (158 + 5 * k)) = nI (a + (hN r k + sf (hN r) (k + 1) m))
    rw [h1, add_nI, hst_l h hd m (k + 1) (a + x) (by omega), e, Nat.add_assoc]
theorem kept_l4 {μ : Mem} {r : Row} {d m q : Nat} {v1 v2 : Int32} (hk : KX9 μ r d m) (hq : r 198 = nI q) (hq8 : q ≤ 8) : ∀ t i n, i + t = q → k4 μ (n + t + 1) v1 v2 (nI i) (nL (sf (hN r) 0 i)) = k9 μ n v1 v2 0 (nL (sf (hN r) 0 q)) 0
  | 0, i, n, h => by
    have e : i = q := by omega
    subst e
    exact s4_end (V_ab2 hk.1 hq hq8) hq8
  | t + 1, i, n, h => by
    obtain ⟨h1, h2, h3, h4, h5⟩ := hk
    have hd := h2.2.2.1
    obtain ⟨x, g, c, p1, p2, p3, p4, p5, p6, p7⟩ := h3.2.2 i (by omega)
    have e : hN r i = x := by
      unfold hN
      rw [if_pos (by omega), p1, cl_nI (by omega)]
    have q2 := V_pipe (j := 2) h1 hq hq8 (by omega : i < q) (by omega)
    have q3 := V_pipe (j := 3) h1 hq hq8 (by omega : i < q) (by omega)
    have q4 := V_pipe (j := 4) h1 hq hq8 (by omega : i < q) (by omega)
    rw [show 156 + 5 * i + 2 = 158 + 5 * i by omega, p1, nI_L (by omega)] at q2
    rw [show 156 + 5 * i + 3 = 159 + 5 * i by omega, p2, nI_L (by omega)] at q3
    rw [show 156 + 5 * i + 4 = 160 + 5 * i by omega, p3, nI_L (by omega)] at q4
    rw [show n + (t + 1) + 1 = (n + t + 1) + 1 by omega, s4_in (V_ab2 h1 hq hq8) hq8 (by omega) (by omega) (by omega) p4 p7 q2 q3 q4, nL_add, ← e]
    have := kept_l4 (v1 := v1) (v2 := v2) (⟨h1, h2, h3, h4, h5⟩ : KX9 μ r d m) hq hq8 t (i + 1) n (by omega)
    rw [sf_last, Nat.zero_add] at this
    exact this
theorem kept_l9 {μ : Mem} {r : Row} {d m : Nat} {v2 : Int32} {w3 : Int64} (hk : KX9 μ r d m) : ∀ t k l n, k + t = ac r → (∀ y, isK r m y → Cc r m y = k → l ≤ y / 1000) → ∃ w6, k9 μ (n + t) (nI (ac r)) v2 (nI k) w3 (nL l) = k9 μ n (nI (ac r)) v2 (nI (ac r)) w3 w6
  | 0, k, l, n, h, _ => by
    have e : k = ac r := by omega
    exact ⟨nL l, by rw [e]; rfl⟩
  | t + 1, k, l, n, h, hl => by
    have hk0 := hk
    obtain ⟨h1, h2, h3, h4, h5⟩ := hk
    have hac := ac_le r
    have hd := h2.2.2.1
    have hCa : Cc r m 10000000 = ac r := by
      rw [Cc_all h2.1 h5]
      unfold ac
      rw [sc_of h4 h5]
    obtain ⟨x, hx1, hx2, hx3⟩ := X4_old_l (ν := cR r) h1 h2.1 h4 h5 (rank := k) (by show k < Cc r m 10000000; rw [hCa]; omega) (by omega) (k + 1) FU 0 (-1) (by omega) (fu_lt (by omega)) ⟨0, Cc_0, by omega, fun x hx => by
      constructor
      · intro g
        have := Int32.lt_of_lt_of_le (m1_lt (a := x) (by omega)) g
        exact absurd this Int32.lt_irrefl
      · intro g
        omega, Or.inl rfl⟩
    have hx3' : fl_X4_oldest μ (nI k) FU (-1) 0 = some (0, nI x - nI x / 1000 * 1000) := hx3
    have hx1' : isK r m x := hx1
    have hx2' : Cc r m x = k := hx2
    have hxl := isK_lt h2.1 h5 hx1'
    have ed : nI x - nI x / 1000 * 1000 = nI (x % 1000) := pk_rem (d := 1000) (by omega) (by omega) (by omega)
    have ho : f_L_oldest μ (nI k) = some (nL (x % 1000)) := by
      unfold f_L_oldest f_X4_oldest
      rw [if_neg (nI_pos (by omega)), h1, X0_frozenCells h2.1, Option.bind_some, if_pos ((lt_nI (by omega) (by omega)).mpr (by omega)), hx3', ed, ← nI_L (by omega)]
      rfl
    have hx1'' := hx1'
    obtain ⟨s, c, hs, hc, hf, hky⟩ := hx1'
    obtain ⟨q, q0, q1, q2, q3⟩ := V_since1 h1 h2 h4 h5 hs hc hf
    have hq : kyN r s c = 1000 * q + (100 * s + c) := by
      unfold kyN
      rw [q2, cl_nI (by omega)]
    rw [hq] at hky
    have hxq : x / 1000 = q := by omega
    have hxm : x % 1000 = 100 * s + c := by omega
    rw [hxm] at ho
    have hlq := hl x hx1'' hx2'
    rw [show n + (t + 1) = (n + t) + 1 by omega, s9_in (by omega) (by omega) (by omega : s < 4) hc (by omega) q0 (by omega) ho q3]
    exact kept_l9 hk0 t (k + 1) q n (by omega) (fun y hy hyk => by
      have hlt : x < y := by
        by_cases g : x < y
        · exact g
        · have := Cc_mono (r := r) h5 y (x - y)
          rw [show y + (x - y) = x by omega] at this
          omega
      have := Nat.div_le_div_right (c := 1000) (Nat.le_of_lt hlt)
      omega)
theorem kept_dp {μ : Mem} {r : Row} {m : Nat} (hn : μ 0 = enc r) (hm : r 196 = nI m) (hm4 : m ≤ 4) : ∀ t n k v1 v2 v3, k + t = m → t < n →
    (((∀ s, s < k → cf (fR r s) 0 30 = 0) ∧ v1 = -1 ∧ v2 = -1 ∧ v3 = 0) ∨ ∃ b c, b < k ∧ c < 30 ∧ v1 = nI b ∧ v2 = nI c ∧ v3 = nI (cf (fR r b) 0 30) ∧ 0 < cf (fR r b) 0 30) →
    ∃ v, fl_X4_deepest μ n v1 v2 v3 (nI k) = some v ∧ (((∀ s, s < m → cf (fR r s) 0 30 = 0) ∧ v = -1) ∨ ∃ b, b < m ∧ v = nI b ∧ 0 < cf (fR r b) 0 30)
  | 0, n + 1, k, v1, v2, v3, hk, _, hv => by
    have e : k = m := by omega
    subst e
    refine ⟨v1, ?_, ?_⟩
    · show fb_X4_deepest_1 μ (fl_X4_deepest μ n) v1 v2 v3 (nI k) = _
      unfold fb_X4_deepest_1
      rw [hn, enc_hi (by omega), hm, if_pos ((le_nI (by omega) (by omega)).mpr (Nat.le_refl k))]
    · rcases hv with ⟨g1, g2, _⟩ | ⟨b, c, g1, _, g3, _, _, g6⟩
      · exact Or.inl ⟨g1, g2⟩
      · exact Or.inr ⟨b, g1, g3, g6⟩
  | t + 1, n + 1, k, v1, v2, v3, hk, hn1, hv => by
    have ok : ¬ oob (nI k) 4 := by rw [oob_nI (by omega)]; omega
    have ck : (nI k).toNatClampNeg = k := cl_nI (by omega)
    have e1 : nI k + 1 = nI (k + 1) := add_nI k 1
    have hk4 : k < 4 := by omega
    have g3 : f_X2_lowestWithin (enc r) k 30 = some (ld (fR r k) 30) := E2_lowestWithin (e := 30) hk4 (by omega)
    have g1 : f_X2_frozenWithin (enc r) k 30 = some (nI (cf (fR r k) 0 30)) := E2_frozenWithin (e := 30) hk4 (by omega)
    have ih := fun w1 w2 w3 => kept_dp hn hm hm4 t n (k + 1) w1 w2 w3 (by omega) (by omega)
    have hcl := cf_le (fR r k) 30 0
    show ∃ v, fb_X4_deepest_1 μ (fl_X4_deepest μ n) v1 v2 v3 (nI k) = some v ∧ _
    unfold fb_X4_deepest_1
    rw [hn, enc_hi (by omega), hm, if_neg (fun x => by rw [le_nI (by omega) (by omega)] at x; omega)]
    simp only [ck, g3, g1, ok, if_false, Option.bind_some]
    rw [e1]
    have up : (∃ b c, b < k ∧ c < 30 ∧ v1 = nI b ∧ v2 = nI c ∧ v3 = nI (cf (fR r b) 0 30) ∧ 0 < cf (fR r b) 0 30) → ∃ b c, b < k + 1 ∧ c < 30 ∧ v1 = nI b ∧ v2 = nI c ∧ v3 = nI (cf (fR r b) 0 30) ∧ 0 < cf (fR r b) 0 30 := fun ⟨b, c, x1, x2⟩ => ⟨b, c, by omega, x2⟩
    rcases deep_cases r k with ⟨q1, q2⟩ | ⟨c, q0, q1, q2⟩
    · have zero : (∀ s, s < k → cf (fR r s) 0 30 = 0) → ∀ s, s < k + 1 → cf (fR r s) 0 30 = 0 := fun h s hs => by
        by_cases e : s = k
        · rw [e, q2]
        · exact h s (by omega)
      rw [q1, q2]
      rcases hv with ⟨g5, rfl, rfl, rfl⟩ | hv
      · rw [if_neg (show ¬ (-1 : Int32) < -1 by decide), if_pos rfl, if_pos (show nI 0 ≤ (0 : Int32) by decide)]
        exact ih _ _ _ (Or.inl ⟨zero g5, rfl, rfl, rfl⟩)
      · have hv' := hv
        obtain ⟨b, c', x1, x2, x3, x4, x5, x6⟩ := hv'
        rw [if_neg (fun x => by rw [x4] at x; exact Int32.lt_irrefl (Int32.lt_trans x (m1_lt (a := c') (by omega)))), if_neg (fun x => by rw [x4] at x; exact m1_ne (a := c') (by omega) x.symm)]
        exact ih _ _ _ (Or.inr (up hv))
    · have hin : ∃ b c', b < k + 1 ∧ c' < 30 ∧ nI k = nI b ∧ nI c = nI c' ∧ nI (cf (fR r k) 0 30) = nI (cf (fR r b) 0 30) ∧ 0 < cf (fR r b) 0 30 := ⟨k, c, by omega, q0, rfl, rfl, rfl, q2⟩
      rw [q1]
      by_cases c1 : v2 < nI c
      · rw [if_pos c1]
        exact ih _ _ _ (Or.inr hin)
      · rw [if_neg c1]
        have hv2 : ∃ b c, b < k ∧ c < 30 ∧ v1 = nI b ∧ v2 = nI c ∧ v3 = nI (cf (fR r b) 0 30) ∧ 0 < cf (fR r b) 0 30 := by
          rcases hv with ⟨_, _, g6, _⟩ | hv
          · rw [g6] at c1
            exact absurd (m1_lt (by omega)) c1
          · exact hv
        by_cases c2 : nI c = v2
        · rw [if_pos c2]
          by_cases c3 : nI (cf (fR r k) 0 30) ≤ v3
          · rw [if_pos c3]
            exact ih _ _ _ (Or.inr (up hv2))
          · rw [if_neg c3]
            exact ih _ _ _ (Or.inr hin)
        · rw [if_neg c2]
          exact ih _ _ _ (Or.inr (up hv2))
/-- kept says yes of every ground that is as it should be -/
theorem kept_1 {μ : Mem} (h : GG (μ 0)) : f_L_kept μ = some 1 := by
  obtain ⟨r, d, h1, h2, h3⟩ := h
  obtain ⟨m, h4, h5⟩ := inv_196 h2.1
  obtain ⟨q7, h7, h78⟩ := inv_197 h2.1
  obtain ⟨q8, h8, h88⟩ := inv_198 h2.1
  have hd := h2.2.2.1
  have hk : KX9 μ r d m := ⟨h1, h2, h3, h4, h5⟩
  have hac := ac_le r
  have hal := al_le r
  have hC : sf (fun s => cf (fR r s) 0 30) 0 m = ac r := by
    unfold ac
    rw [sc_of h4 h5]
  have hA : sf (fun s => cf (bgn (fR r s)) 0 30) 0 m = al r := by
    unfold al
    rw [sc_of h4 h5]
  have hH : (itr (hst r) 0 (pn r) 0).toInt64 = nL (sf (hN r) 0 q8) := by
    have e := hst_l h3 hd q8 0 0 (by omega)
    have hb := sf_le (hN_le h3 hd) q8 0
    rw [Nat.zero_add] at e
    rw [pn_of h8 h88, show (0 : Int32) = nI 0 from rfl, e, nI_L (by omega)]
  show k1 μ 2500 0 0 0 0 = some 1
  obtain ⟨n1, r1, r2⟩ := kept_l1 hk m 0 2500 (by omega) (by omega)
  have r2' : k1 μ 2500 0 0 0 0 = k2 μ n1 (nI (sf (fun s => cf (fR r s) 0 30) 0 m)) (nI (sf (fun s => cf (bgn (fR r s)) 0 30) 0 m)) 0 0 := r2
  rw [r2', hC, hA]
  obtain ⟨n2, rfl⟩ : ∃ n2, n1 = n2 + 3 * q7 + 1 := ⟨n1 - 3 * q7 - 1, by omega⟩
  have r3 := kept_l2 (v1 := nI (ac r)) (v2 := nI (al r)) hk h7 h78 q7 0 n2 (by omega)
  rw [show (0 : Int32) = nI 0 from rfl, r3]
  obtain ⟨n3, rfl⟩ : ∃ n3, n2 = n3 + q8 + 1 := ⟨n2 - q8 - 1, by omega⟩
  have r4 : k4 μ (n3 + q8 + 1) (nI (ac r)) (nI (al r)) 0 0 = k9 μ n3 (nI (ac r)) (nI (al r)) 0 (nL (sf (hN r) 0 q8)) 0 := kept_l4 (v1 := nI (ac r)) (v2 := nI (al r)) hk h8 h88 q8 0 n3 (by omega)
  rw [r4]
  obtain ⟨n4, rfl⟩ : ∃ n4, n3 = n4 + 2 + ac r := ⟨n3 - 2 - ac r, by omega⟩
  obtain ⟨w6, r5⟩ := kept_l9 (v2 := nI (al r)) (w3 := nL (sf (hN r) 0 q8)) hk (ac r) 0 0 (n4 + 2) (by omega) (fun _ _ _ => Nat.zero_le _)
  have r5' : k9 μ (n4 + 2 + ac r) (nI (ac r)) (nI (al r)) 0 (nL (sf (hN r) 0 q8)) 0 = k9 μ (n4 + 2) (nI (ac r)) (nI (al r)) (nI (ac r)) (nL (sf (hN r) 0 q8)) w6 := r5
  rw [r5']
  obtain ⟨v, d1, d2⟩ := kept_dp h1 h4 h5 m FU 0 (-1) (-1) 0 (by omega) (fu_lt (by omega)) (Or.inl ⟨fun s hs => absurd hs (Nat.not_lt_zero s), rfl, rfl, rfl⟩)
  refine s9_end (by omega) (by omega) d1 (V_ab4 h1 h2) (V_ab5 h1 h2) (by rw [V_ab8 h1 h2, hH]) ?_
  rcases d2 with ⟨g1, g2⟩ | ⟨b, g1, g2, g3⟩
  · refine Or.inl ⟨?_, g2⟩
    rw [← hC]
    exact sf_zero m 0 (fun j _ hj => g1 j (by omega))
  · refine Or.inr ⟨?_, cf (fR r b) 0 30, g3, cf_le _ _ _, ?_⟩
    · have := sf_ge (f := fun s => cf (fR r s) 0 30) m g1
      rw [hC] at this
      have g3' : 0 < (fun s => cf (fR r s) 0 30) b := g3
      omega
    · have e5 := V_site (j := 5) h1 h4 h5 g1 (by omega) (N_5 (by omega))
      have := cf_le (fR r b) 30 0
      rw [nI_L (by omega)] at e5
      rw [g2]
      exact e5
