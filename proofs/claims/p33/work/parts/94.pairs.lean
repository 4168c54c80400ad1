/-! two objects: told, follows, alike -/
theorem rel_t1 {μ ν m : Mem} (h : Rel μ ν) (ht : T1 μ m) : Rel m ν := by
  obtain ⟨h1, h2, h3, h4, ⟨c, f, p0, p1, p5, hc, hf, hst⟩, h6, h7⟩ := h
  refine ⟨by rw [ht 0 (by omega)]; exact h1, h2, by rw [ht 2 (by omega)]; exact h3, h4, ⟨c, f, by rw [ht 20 (by omega)]; exact p0, by rw [ht 20 (by omega)]; exact p1, p5, hc, hf, fun j hj => ?_⟩, fun s hs => ?_, by rw [ht 19 (by omega)]; exact h7⟩
  · have := hst j hj
    refine ⟨?_, this.2⟩
    show m (3 + (f + j) % 14) = _
    rw [ht _ (by omega)]
    exact this.1
  · have := h6 s hs
    show m 21 s = _ ∧ (_ ∨ (_ ∧ m (17 + s) = _ ∧ _))
    rw [ht 21 (by omega), ht (17 + s) (by omega)]
    exact this
theorem sim_two {μ ν : Mem} (h : Rel μ ν) (a : Int64) (b : Int32) : ∃ w q q', f_L_simulate μ a b = some (w, q) ∧ f_L_simulate q a b = some (w, q') ∧ T1 μ q ∧ T1 q q' := by
  obtain ⟨k, v, q, b', ν', h1, h2, h3, h4⟩ := call_simulate a b h
  have ht := t1_simulate μ a b _ h1
  obtain ⟨k2, v2, v2', μ1, μ1', ν1, e1, e2, e3, e4, _⟩ := pr_call (by simp) (by simp) (call_simulate a b h) (call_simulate a b (rel_t1 h ht))
  have ht2 := t1_simulate q a b _ e2
  rw [h1] at e1
  cases e1
  unfold f_L_simulate
  rcases e4 with rfl | e4
  · refine ⟨v.toInt64, q, μ1', by rw [h1]; rfl, ?_, ht, ht2⟩
    rw [e2, e3 rfl]
    rfl
  · simp only [List.mem_cons, List.not_mem_nil, or_false] at e4
    subst e4
    exact ⟨-9000000000000000002, q, μ1', by rw [h1]; rfl, by rw [e2]; rfl, ht, ht2⟩
/-- follows is always yes; after it the object is as one that was saved and restored -/
theorem follows_1 {μ ν : Mem} {x : Nat} (hx : x < 2147483648) (h : Rel μ ν) (hj : MJ μ) : Yes9 (va_up (va_up μ 18 (μ 0)) 21 (upd (μ 21) 1 1)) (f_L_follows μ (nI x)) := by
  obtain ⟨d, hg⟩ := h.1.2
  have hd9 := hg.2.2.1
  have hn := h.1.1
  obtain ⟨W, hW⟩ := now_ex h
  have hX := X4_save1 (μ := μ)
  have hM := mj_save hj hX
  obtain ⟨k, v, q, b', ν2, h1, _, _, h4⟩ := call_save 1 h
  rw [hX] at h1
  generalize hm : va_up (va_up μ 18 (μ 0)) 21 (upd (μ 21) 1 1) = m at hX hM h1 ⊢
  cases h1
  have m0 : q 0 = enc (ν 1) := by rw [← hm, mu_off _ _ (by omega), mu_off _ _ (by omega)]; exact hn
  have C : C9 q (ν 1) W d := ⟨hg, m0, by rw [← hm, mu_off _ _ (by omega), mu_at]; exact hn, by rw [← hm, mu_at, pk_us], by rw [now_congr (m0.trans hn.symm)]; exact hW⟩
  have hS : f_L_save μ 1 = some (nL d, q) := by
    unfold f_L_save
    rw [hX, Option.bind_some, if_pos rfl, hn, enc_hi (by omega), hg.2.1, nI_L (by omega)]
  obtain ⟨w, s1, s2, e1, e2, t1, t2⟩ := sim_two h4 (nI x).toInt64 6
  have tt := t1_tr t1 t2
  have hF : F9 q (enc (ν 1)) [] s2 := by
    obtain ⟨c, f, p0, p1, _, hc, hf, _⟩ := h.2.2.2.2.1
    refine f9_t1 ⟨m0, ⟨c, f, ?_, ?_, hc, hf, Nat.zero_le _, fun j g hj => by cases hj⟩, hM, fun i _ => rfl⟩ tt
    · rw [← hm, mu_off _ _ (by omega), mu_off _ _ (by omega)]; exact p0
    · rw [← hm, mu_off _ _ (by omega), mu_off _ _ (by omega)]; exact p1
  unfold f_L_follows
  rw [hW, Option.bind_some, hS, Option.bind_some, V_ab3 m0 hg, Option.bind_some, if_pos (ceq_s _), e1, Option.bind_some, e2, Option.bind_some, if_pos (ceq_s _), now_congr (hF.1.trans hn.symm), hW, Option.bind_some, if_pos (ceq_s _)]
  exact fo_1 C hx hF
/-- a state with nothing to take back is told by few of its parts -/
theorem rel_fin {μ m ν : Mem} (h : Rel μ ν) (h0 : m 0 = μ 0) (c0 : μ 20 0 = 0) (d0 : m 20 0 = 0) (d1 : m 20 1 = 0) (ho : ∀ i, (i = 2 ∨ i = 17 ∨ i = 18 ∨ i = 19 ∨ i = 21) → m i = μ i) : Rel m ν := by
  obtain ⟨h1, h2, h3, h4, ⟨c, f, p0, p1, p5, hc, hf, hst⟩, h6, h7⟩ := h
  have e : c = 0 := by
    rw [c0, show (0 : Int32) = nI 0 from rfl, eq_nI (by omega) (by omega)] at p0
    omega
  subst e
  refine ⟨by rw [h0]; exact h1, h2, by rw [ho 2 (by omega)]; exact h3, h4, ⟨0, 0, d0, d1, p5, by omega, by omega, fun j hj => absurd hj (Nat.not_lt_zero j)⟩, fun s hs => ?_, by rw [ho 19 (by omega)]; exact h7⟩
  have := h6 s hs
  show m 21 s = _ ∧ (_ ∨ (_ ∧ m (17 + s) = _ ∧ _))
  rw [ho 21 (by omega), ho (17 + s) (by omega)]
  exact this
theorem pq_follows {p q : Mem} {x : Nat} (hx : x < 2147483648) (h : PQ p q) : ∃ q' p2 p3 a b, f_L_follows q (nI x) = some (1, q') ∧ f_L_save p 1 = some (nL a, p2) ∧ f_L_restore p2 1 = some (nL b, p3) ∧ a < 100000 ∧ b < 100000 ∧ PQ p3 q' := by
  obtain ⟨ν, hp, hq, jp, jq⟩ := h
  obtain ⟨q', e1, f0, f20, f21, fj, fo⟩ := follows_1 hx hq jq
  obtain ⟨d, hg⟩ := hp.1.2
  have hd9 := hg.2.2.1
  have s1 : f_L_save p 1 = some (nL d, va_up (va_up p 18 (p 0)) 21 (upd (p 21) 1 1)) := by
    unfold f_L_save
    rw [X4_save1, Option.bind_some, if_pos rfl, hp.1.1, enc_hi (by omega), hg.2.1, nI_L (by omega)]
  have s2 : f_L_save q 1 = some (nL d, va_up (va_up q 18 (q 0)) 21 (upd (q 21) 1 1)) := by
    unfold f_L_save
    rw [X4_save1, Option.bind_some, if_pos rfl, hq.1.1, enc_hi (by omega), hg.2.1, nI_L (by omega)]
  obtain ⟨w, p2, q2, a1, a2, hpq2⟩ := pq_save 1 ⟨ν, hp, hq, jp, jq⟩
  rw [s1] at a1
  rw [s2] at a2
  generalize hP : va_up (va_up p 18 (p 0)) 21 (upd (p 21) 1 1) = P at s1 a1
  generalize hQ : va_up (va_up q 18 (q 0)) 21 (upd (q 21) 1 1) = Q at s2 a2 f0 fo
  cases a1
  cases a2
  have P18 : p2 18 = enc (ν 1) := by rw [← hP, mu_off _ _ (by omega), mu_at]; exact hp.1.1
  have P21 : p2 21 1 = 1 := by rw [← hP, mu_at, pk_us]
  have Q18 : q2 18 = enc (ν 1) := by rw [← hQ, mu_off _ _ (by omega), mu_at]; exact hq.1.1
  have Q21 : q2 21 1 = 1 := by rw [← hQ, mu_at, pk_us]
  have Q0 : q2 0 = enc (ν 1) := by rw [← hQ, mu_off _ _ (by omega), mu_off _ _ (by omega)]; exact hq.1.1
  obtain ⟨w, p3, q3, b1, b2, ⟨ν3, r1, r2, j1, j2⟩⟩ := pq_restore 1 hpq2
  have t1 : f_L_restore p2 1 = some (nL d, va_up (va_up p2 20 (upd (upd (p2 20) 0 0) 1 0)) 0 (enc (ν 1))) := by
    unfold f_L_restore
    rw [X4_restore1 P18 P21, Option.bind_some, if_pos rfl, hg.2.1, nI_L (by omega)]
  have t2 : f_L_restore q2 1 = some (nL d, va_up (va_up q2 20 (upd (upd (q2 20) 0 0) 1 0)) 0 (enc (ν 1))) := by
    unfold f_L_restore
    rw [X4_restore1 Q18 Q21, Option.bind_some, if_pos rfl, hg.2.1, nI_L (by omega)]
  rw [t2] at b2
  generalize hQ3 : va_up (va_up q2 20 (upd (upd (q2 20) 0 0) 1 0)) 0 (enc (ν 1)) = Q3 at t2 b2
  cases b2
  have z0 : q3 0 = enc (ν 1) := by rw [← hQ3, mu_at]
  have z20 : q3 20 = upd (upd (q2 20) 0 0) 1 0 := by rw [← hQ3, mu_off _ _ (by omega), mu_at]
  have zo : ∀ i, i ≠ 0 → i ≠ 20 → q3 i = q2 i := fun i h1 h2 => by rw [← hQ3, mu_off _ _ h1, mu_off _ _ h2]
  exact ⟨q', p2, p3, d, d, e1, s1, b1, by omega, by omega, ν3, r1, rel_fin r2 (by rw [z0, f0, Q0]) (by rw [z20, pk_un (by omega), pk_us]) f20 f21 (fun i hi => by rw [zo i (by omega) (by omega)]; exact fo i hi), j1, fj⟩
/-- two texts of the same signs -/
theorem pq_tx {p q p' q' : Mem} {l : List Nat} (hl : l.length ≤ 120) (h : PQ p q) (hp : TX9 p p' l) (hq : TX9 q q' l) : PQ p' q' := by
  obtain ⟨ν, r1, r2, j1, j2⟩ := h
  have go : ∀ m m' : Mem, Rel m ν → TX9 m m' l → Rel m' (va_up (va_up ν 7 (fun j => nI (l[j]?.getD 0))) 0 (upd (ν 0) 9 (nI l.length))) := by
    intro m m' h ⟨t1, t2, t3⟩
    obtain ⟨h1, h2, h3, h4, ⟨c, f, p0, p1, p5, hc, hf, hst⟩, h6, h7⟩ := h
    refine ⟨?_, ?_, by rw [t1 2 (by omega)]; exact h3, ?_, ⟨c, f, by rw [t1 20 (by omega)]; exact p0, by rw [t1 20 (by omega)]; exact p1, ?_, hc, hf, fun j hj => ?_⟩, fun s hs => ?_, ⟨l.length, hl, t2, ?_, fun j hj => ?_⟩⟩
    · rw [t1 0 (by omega), mu_off _ _ (by omega), mu_off _ _ (by omega)]
      exact h1
    · rw [mu_off _ _ (by omega), mu_off _ _ (by omega)]
      exact h2
    · rw [mu_off _ _ (by omega), mu_off _ _ (by omega)]
      exact h4
    · rw [mu_at, pk_un (by omega)]
      exact p5
    · rw [mu_off _ _ (by omega), mu_off _ _ (by omega)]
      have := hst j hj
      refine ⟨?_, this.2⟩
      show m' (3 + (f + j) % 14) = _
      rw [t1 _ (by omega)]
      exact this.1
    · have := h6 s hs
      rw [mu_off _ _ (by omega : (5 : Nat) ≠ 0), mu_off _ _ (by omega : (5 : Nat) ≠ 7), mu_off _ _ (by omega : (6 : Nat) ≠ 0), mu_off _ _ (by omega : (6 : Nat) ≠ 7)]
      show m' 21 s = _ ∧ (_ ∨ (_ ∧ m' (17 + s) = _ ∧ _))
      rw [t1 21 (by omega), t1 (17 + s) (by omega)]
      exact this
    · rw [mu_at, pk_us]
    · rw [mu_off _ _ (by omega), mu_at]
      rw [t3 j l[j] (List.getElem?_eq_getElem hj), List.getElem?_eq_getElem hj]
      rfl
  exact ⟨_, go p p' r1 hp, go q q' r2 hq, mj_mu j1 (fun i hi => hp.1 i (by omega)), mj_mu j2 (fun i hi => hq.1 i (by omega))⟩
theorem pq_told {p q : Mem} {x : Nat} (hx : x < 2147483648) (h : PQ p q) : ∃ p' q', f_L_told p (nI x) = some (1, p') ∧ f_L_told q (nI x) = some (1, q') ∧ PQ p' q' := by
  have h' := h
  obtain ⟨ν, r1, r2, j1, j2⟩ := h'
  obtain ⟨L1, hL1, t1, _⟩ := r1.2.2.2.2.2.2
  obtain ⟨L2, hL2, t2, _⟩ := r2.2.2.2.2.2.2
  obtain ⟨p10, p', e1, x1, y1⟩ := told_1 hx (by omega) t1
  obtain ⟨q10, q', e2, x2, y2⟩ := told_1 hx (by omega) t2
  obtain ⟨v, a, b, z1, z2, z3⟩ := pq_errorPosition (pq_tx (by rw [tsg_len]; omega) h x1 x2)
  rw [y1] at z1
  rw [y2] at z2
  cases z1
  cases z2
  exact ⟨p', q', e1, e2, z3⟩
