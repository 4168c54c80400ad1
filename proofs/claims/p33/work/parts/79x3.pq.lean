/-! two objects that belong to one state of the reference answer alike, and stay so -/
def PQ (μ μ' : Mem) : Prop := ∃ ν, Rel μ ν ∧ Rel μ' ν ∧ MJ μ ∧ MJ μ'
theorem pr_call {cs : List Nat} {X X' : Option (Nat × Int32 × Mem)} {Y : Option (Int32 × Mem)} (hl : cs.length < 100) (h0 : ¬ 0 ∈ cs) (h : Call cs X Y) (h' : Call cs X' Y) : ∃ k v v' μ1 μ1' ν1, X = some (k, v, μ1) ∧ X' = some (k, v', μ1') ∧ (k = 0 → v = v') ∧ (k = 0 ∨ k ∈ cs) ∧ Rel μ1 ν1 ∧ Rel μ1' ν1 := by
  obtain ⟨k, v, μ1, b, ν1, hX, hY, hc, hR⟩ := h
  obtain ⟨k', v', μ1', b', ν1', hX', hY', hc', hR'⟩ := h'
  have e := hY.symm.trans hY'
  cases e
  rcases hc with ⟨a1, a2, a3⟩ | ⟨i, a1, a2⟩
  · rcases hc' with ⟨b1, b2, b3⟩ | ⟨j, b1, b2⟩
    · exact ⟨k, v, v', μ1, μ1', ν1, hX, by rw [hX', a1, b1], fun _ => a3.trans b3.symm, Or.inl a1, hR, hR'⟩
    · have hj := (List.getElem?_eq_some_iff.mp b1).1
      rw [a2] at b2
      exact absurd b2.symm (nI_ne0 (by omega) (by omega))
  · have hi := (List.getElem?_eq_some_iff.mp a1).1
    rcases hc' with ⟨b1, b2, b3⟩ | ⟨j, b1, b2⟩
    · rw [a2] at b2
      exact absurd b2 (nI_ne0 (by omega) (by omega))
    · have hj := (List.getElem?_eq_some_iff.mp b1).1
      rw [a2, eq_nI (by omega) (by omega)] at b2
      have e : i = j := by omega
      subst e
      rw [a1] at b1
      have e2 := Option.some.inj b1
      subst e2
      by_cases k0 : k = 0
      · -- a code of 0 in the list: not in ours, but then the answers need not agree; the lists of the class hold none
        exact absurd k0 (fun z => by
          subst z
          exact (h0 (List.mem_of_getElem? a1)))
      · exact ⟨k, v, v', μ1, μ1', ν1, hX, hX', fun z => absurd z k0, Or.inr (List.mem_of_getElem? a1), hR, hR'⟩
def R2 (X X' : Option (Int64 × Mem)) : Prop := ∃ w μ1 μ1', X = some (w, μ1) ∧ X' = some (w, μ1') ∧ PQ μ1 μ1'
theorem r2_if {c : Prop} {hc : Decidable c} {A B A' B' : Option (Int64 × Mem)} (h1 : R2 A A') (h2 : R2 B B') : R2 (@ite _ c hc A B) (@ite _ c hc A' B') := by
  by_cases q : c
  · rw [if_pos q, if_pos q]; exact h1
  · rw [if_neg q, if_neg q]; exact h2
theorem r2_tail {X X' : Option (Int64 × Mem)} (h : R2 X X') : R2 (X.bind fun r => some (r.1, r.2)) (X'.bind fun r => some (r.1, r.2)) := by
  obtain ⟨w, μ1, μ1', e1, e2, h⟩ := h
  rw [e1, e2]
  exact ⟨w, μ1, μ1', rfl, rfl, h⟩

theorem mj_append {μ : Mem} {a1 : Int32} {b : Nat × Int32 × Mem} (h : MJ μ) (hb : f_X4_append μ a1 = some b) : MJ b.2.2 := by
  unfold f_X4_append at hb
  obtain ⟨r1, _, hb⟩ := bnd hb
  split at hb
  · split at hb
    · obtain ⟨r4, _, hb⟩ := bnd hb
      cases hb
      exact mj_hi h (by omega)
    · cases hb; exact h
  · cases hb; exact h

theorem pq_append {μ μ' : Mem} (a1 : Int32) (hpq : PQ μ μ') : R2 (f_L_append μ a1) (f_L_append μ' a1) := by
  obtain ⟨ν, h, h', hm, hm'⟩ := hpq
  obtain ⟨k, v, v', μ1, μ1', ν1, e1, e2, e3, e4, r1, r2⟩ := pr_call (by decide) (by decide) (call_append a1 h) (call_append a1 h')
  have hp : PQ μ1 μ1' := ⟨ν1, r1, r2, (mj_append hm e1), (mj_append hm' e2)⟩
  unfold f_L_append
  rw [e1, e2, Option.bind_some, Option.bind_some]
  rcases e4 with e4 | e4
  · subst e4
    obtain rfl := e3 rfl
    exact ⟨_, μ1, μ1', rfl, rfl, hp⟩
  · simp only [List.mem_cons, List.not_mem_nil, or_false] at e4
    rcases e4 with rfl | rfl
    · exact ⟨_, μ1, μ1', rfl, rfl, hp⟩
    · exact ⟨_, μ1, μ1', rfl, rfl, hp⟩

theorem pq_load {μ μ' : Mem}  (hpq : PQ μ μ') : R2 (f_L_load μ) (f_L_load μ') := by
  obtain ⟨ν, h, h', hm, hm'⟩ := hpq
  obtain ⟨k, v, v', μ1, μ1', ν1, e1, e2, e3, e4, r1, r2⟩ := pr_call (by decide) (by decide) (call_load  h) (call_load  h')
  have hp : PQ μ1 μ1' := ⟨ν1, r1, r2, (mj_load hm e1), (mj_load hm' e2)⟩
  unfold f_L_load
  rw [e1, e2, Option.bind_some, Option.bind_some]
  rcases e4 with e4 | e4
  · subst e4
    obtain rfl := e3 rfl
    exact ⟨_, μ1, μ1', rfl, rfl, hp⟩
  · simp only [List.mem_cons, List.not_mem_nil, or_false] at e4
    subst e4
    exact ⟨_, μ1, μ1', rfl, rfl, hp⟩

theorem pq_site {μ μ' : Mem}  (hpq : PQ μ μ') : R2 (f_L_site μ) (f_L_site μ') := by
  obtain ⟨ν, h, h', hm, hm'⟩ := hpq
  obtain ⟨k, v, v', μ1, μ1', ν1, e1, e2, e3, e4, r1, r2⟩ := pr_call (by decide) (by decide) (call_site  h) (call_site  h')
  have hp : PQ μ1 μ1' := ⟨ν1, r1, r2, (mj_wrap (μ := μ) (fun _ z => mj_act hm z) e1), (mj_wrap (μ := μ') (fun _ z => mj_act hm' z) e2)⟩
  unfold f_L_site
  rw [e1, e2, Option.bind_some, Option.bind_some]
  rcases e4 with e4 | e4
  · subst e4
    obtain rfl := e3 rfl
    exact ⟨_, μ1, μ1', rfl, rfl, hp⟩
  · simp only [List.mem_cons, List.not_mem_nil, or_false] at e4
    subst e4
    exact ⟨_, μ1, μ1', rfl, rfl, hp⟩

theorem pq_tube {μ μ' : Mem} (a1 : Int32) (a2 : Int32) (hpq : PQ μ μ') : R2 (f_L_tube μ a1 a2) (f_L_tube μ' a1 a2) := by
  obtain ⟨ν, h, h', hm, hm'⟩ := hpq
  obtain ⟨k, v, v', μ1, μ1', ν1, e1, e2, e3, e4, r1, r2⟩ := pr_call (by decide) (by decide) (call_tube a1 a2 h) (call_tube a1 a2 h')
  have hp : PQ μ1 μ1' := ⟨ν1, r1, r2, (mj_wrap (μ := μ) (fun _ z => mj_act hm z) e1), (mj_wrap (μ := μ') (fun _ z => mj_act hm' z) e2)⟩
  unfold f_L_tube
  rw [e1, e2, Option.bind_some, Option.bind_some]
  rcases e4 with e4 | e4
  · subst e4
    obtain rfl := e3 rfl
    exact ⟨_, μ1, μ1', rfl, rfl, hp⟩
  · simp only [List.mem_cons, List.not_mem_nil, or_false] at e4
    rcases e4 with rfl | rfl | rfl
    · exact ⟨_, μ1, μ1', rfl, rfl, hp⟩
    · exact ⟨_, μ1, μ1', rfl, rfl, hp⟩
    · exact ⟨_, μ1, μ1', rfl, rfl, hp⟩

theorem pq_pipe {μ μ' : Mem} (a1 : Int32) (a2 : Int32) (hpq : PQ μ μ') : R2 (f_L_pipe μ a1 a2) (f_L_pipe μ' a1 a2) := by
  obtain ⟨ν, h, h', hm, hm'⟩ := hpq
  obtain ⟨k, v, v', μ1, μ1', ν1, e1, e2, e3, e4, r1, r2⟩ := pr_call (by decide) (by decide) (call_pipe a1 a2 h) (call_pipe a1 a2 h')
  have hp : PQ μ1 μ1' := ⟨ν1, r1, r2, (mj_wrap (μ := μ) (fun _ z => mj_act hm z) e1), (mj_wrap (μ := μ') (fun _ z => mj_act hm' z) e2)⟩
  unfold f_L_pipe
  rw [e1, e2, Option.bind_some, Option.bind_some]
  rcases e4 with e4 | e4
  · subst e4
    obtain rfl := e3 rfl
    exact ⟨_, μ1, μ1', rfl, rfl, hp⟩
  · simp only [List.mem_cons, List.not_mem_nil, or_false] at e4
    rcases e4 with rfl | rfl
    · exact ⟨_, μ1, μ1', rfl, rfl, hp⟩
    · exact ⟨_, μ1, μ1', rfl, rfl, hp⟩

theorem pq_fence {μ μ' : Mem} (a1 : Int32) (a2 : Int32) (hpq : PQ μ μ') : R2 (f_L_fence μ a1 a2) (f_L_fence μ' a1 a2) := by
  obtain ⟨ν, h, h', hm, hm'⟩ := hpq
  obtain ⟨k, v, v', μ1, μ1', ν1, e1, e2, e3, e4, r1, r2⟩ := pr_call (by decide) (by decide) (call_fence a1 a2 h) (call_fence a1 a2 h')
  have hp : PQ μ1 μ1' := ⟨ν1, r1, r2, (mj_wrap (μ := μ) (fun _ z => mj_act hm z) e1), (mj_wrap (μ := μ') (fun _ z => mj_act hm' z) e2)⟩
  unfold f_L_fence
  rw [e1, e2, Option.bind_some, Option.bind_some]
  rcases e4 with e4 | e4
  · subst e4
    obtain rfl := e3 rfl
    exact ⟨_, μ1, μ1', rfl, rfl, hp⟩
  · simp only [List.mem_cons, List.not_mem_nil, or_false] at e4
    rcases e4 with rfl | rfl
    · exact ⟨_, μ1, μ1', rfl, rfl, hp⟩
    · exact ⟨_, μ1, μ1', rfl, rfl, hp⟩

theorem pq_shovel {μ μ' : Mem} (a1 : Int32) (hpq : PQ μ μ') : R2 (f_L_shovel μ a1) (f_L_shovel μ' a1) := by
  obtain ⟨ν, h, h', hm, hm'⟩ := hpq
  obtain ⟨k, v, v', μ1, μ1', ν1, e1, e2, e3, e4, r1, r2⟩ := pr_call (by decide) (by decide) (call_shovel a1 h) (call_shovel a1 h')
  have hp : PQ μ1 μ1' := ⟨ν1, r1, r2, (mj_wrap (μ := μ) (fun _ z => mj_act hm z) e1), (mj_wrap (μ := μ') (fun _ z => mj_act hm' z) e2)⟩
  unfold f_L_shovel
  rw [e1, e2, Option.bind_some, Option.bind_some]
  rcases e4 with e4 | e4
  · subst e4
    obtain rfl := e3 rfl
    exact ⟨_, μ1, μ1', rfl, rfl, hp⟩
  · simp only [List.mem_cons, List.not_mem_nil, or_false] at e4
    subst e4
    exact ⟨_, μ1, μ1', rfl, rfl, hp⟩

theorem pq_days {μ μ' : Mem} (a1 : Int32) (a2 : Int32) (a3 : Int32) (hpq : PQ μ μ') : R2 (f_L_days μ a1 a2 a3) (f_L_days μ' a1 a2 a3) := by
  obtain ⟨ν, h, h', hm, hm'⟩ := hpq
  obtain ⟨k, v, v', μ1, μ1', ν1, e1, e2, e3, e4, r1, r2⟩ := pr_call (by decide) (by decide) (call_days a1 a2 a3 h) (call_days a1 a2 a3 h')
  have hp : PQ μ1 μ1' := ⟨ν1, r1, r2, (mj_wrap (μ := μ) (fun _ z => mj_act hm z) e1), (mj_wrap (μ := μ') (fun _ z => mj_act hm' z) e2)⟩
  unfold f_L_days
  rw [e1, e2, Option.bind_some, Option.bind_some]
  rcases e4 with e4 | e4
  · subst e4
    obtain rfl := e3 rfl
    exact ⟨_, μ1, μ1', rfl, rfl, hp⟩
  · simp only [List.mem_cons, List.not_mem_nil, or_false] at e4
    rcases e4 with rfl | rfl
    · exact ⟨_, μ1, μ1', rfl, rfl, hp⟩
    · exact ⟨_, μ1, μ1', rfl, rfl, hp⟩

theorem pq_set {μ μ' : Mem} (a1 : Int32) (a2 : Int32) (hpq : PQ μ μ') : R2 (f_L_set μ a1 a2) (f_L_set μ' a1 a2) := by
  obtain ⟨ν, h, h', hm, hm'⟩ := hpq
  obtain ⟨k, v, v', μ1, μ1', ν1, e1, e2, e3, e4, r1, r2⟩ := pr_call (by decide) (by decide) (call_set a1 a2 h) (call_set a1 a2 h')
  have hp : PQ μ1 μ1' := ⟨ν1, r1, r2, (mj_wrap (μ := μ) (fun _ z => mj_act hm z) e1), (mj_wrap (μ := μ') (fun _ z => mj_act hm' z) e2)⟩
  unfold f_L_set
  rw [e1, e2, Option.bind_some, Option.bind_some]
  rcases e4 with e4 | e4
  · subst e4
    obtain rfl := e3 rfl
    exact ⟨_, μ1, μ1', rfl, rfl, hp⟩
  · simp only [List.mem_cons, List.not_mem_nil, or_false] at e4
    subst e4
    exact ⟨_, μ1, μ1', rfl, rfl, hp⟩

theorem mj_undoR {μ ν : Mem} {b : Nat × Int32 × Mem} (h : Rel μ ν) (hm : MJ μ) (hb : f_X4_undo μ = some b) : MJ b.2.2 := by
  obtain ⟨_, _, _, _, ⟨c, f, p0, p1, _, hc, hf, _⟩, _, _⟩ := h
  exact mj_undo hm p0 p1 hc hf hb

theorem pq_undo {μ μ' : Mem}  (hpq : PQ μ μ') : R2 (f_L_undo μ) (f_L_undo μ') := by
  obtain ⟨ν, h, h', hm, hm'⟩ := hpq
  obtain ⟨k, v, v', μ1, μ1', ν1, e1, e2, e3, e4, r1, r2⟩ := pr_call (by decide) (by decide) (call_undo  h) (call_undo  h')
  have hp : PQ μ1 μ1' := ⟨ν1, r1, r2, (mj_undoR h hm e1), (mj_undoR h' hm' e2)⟩
  unfold f_L_undo
  rw [e1, e2, Option.bind_some, Option.bind_some]
  rcases e4 with e4 | e4
  · subst e4
    obtain rfl := e3 rfl
    exact ⟨_, μ1, μ1', rfl, rfl, hp⟩
  · simp only [List.mem_cons, List.not_mem_nil, or_false] at e4
    subst e4
    exact ⟨_, μ1, μ1', rfl, rfl, hp⟩

theorem pq_goneIn {μ μ' : Mem} (a1 : Int32) (a2 : Int32) (hpq : PQ μ μ') : R2 (f_L_goneIn μ a1 a2) (f_L_goneIn μ' a1 a2) := by
  obtain ⟨ν, h, h', hm, hm'⟩ := hpq
  obtain ⟨k, v, v', μ1, μ1', ν1, e1, e2, e3, e4, r1, r2⟩ := pr_call (by decide) (by decide) (call_goneIn a1 a2 h) (call_goneIn a1 a2 h')
  have hp : PQ μ1 μ1' := ⟨ν1, r1, r2, (mj_t1 hm (t1_goneIn μ a1 a2 _ e1)), (mj_t1 hm' (t1_goneIn μ' a1 a2 _ e2))⟩
  unfold f_L_goneIn
  rw [e1, e2, Option.bind_some, Option.bind_some]
  rcases e4 with e4 | e4
  · subst e4
    obtain rfl := e3 rfl
    exact ⟨_, μ1, μ1', rfl, rfl, hp⟩
  · simp only [List.mem_cons, List.not_mem_nil, or_false] at e4
    rcases e4 with rfl | rfl
    · exact ⟨_, μ1, μ1', rfl, rfl, hp⟩
    · exact ⟨_, μ1, μ1', rfl, rfl, hp⟩

theorem pq_script {μ μ' : Mem} (a1 : Int32) (a2 : Int64) (hpq : PQ μ μ') : R2 (f_L_script μ a1 a2) (f_L_script μ' a1 a2) := by
  obtain ⟨ν, h, h', hm, hm'⟩ := hpq
  obtain ⟨k, v, v', μ1, μ1', ν1, e1, e2, e3, e4, r1, r2⟩ := pr_call (by decide) (by decide) (call_runScript a1 a2 h) (call_runScript a1 a2 h')
  have hp : PQ μ1 μ1' := ⟨ν1, r1, r2, (mj_t1 hm (t1_runScript μ a1 a2 _ e1)), (mj_t1 hm' (t1_runScript μ' a1 a2 _ e2))⟩
  unfold f_L_script
  rw [e1, e2, Option.bind_some, Option.bind_some]
  rcases e4 with e4 | e4
  · subst e4
    obtain rfl := e3 rfl
    exact ⟨_, μ1, μ1', rfl, rfl, hp⟩
  · simp only [List.mem_cons, List.not_mem_nil, or_false] at e4
    subst e4
    exact ⟨_, μ1, μ1', rfl, rfl, hp⟩

theorem pq_simulate {μ μ' : Mem} (a1 : Int64) (a3 : Int32) (hpq : PQ μ μ') : R2 (f_L_simulate μ a1 a3) (f_L_simulate μ' a1 a3) := by
  obtain ⟨ν, h, h', hm, hm'⟩ := hpq
  obtain ⟨k, v, v', μ1, μ1', ν1, e1, e2, e3, e4, r1, r2⟩ := pr_call (by decide) (by decide) (call_simulate a1 a3 h) (call_simulate a1 a3 h')
  have hp : PQ μ1 μ1' := ⟨ν1, r1, r2, (mj_t1 hm (t1_simulate μ a1 a3 _ e1)), (mj_t1 hm' (t1_simulate μ' a1 a3 _ e2))⟩
  unfold f_L_simulate
  rw [e1, e2, Option.bind_some, Option.bind_some]
  rcases e4 with e4 | e4
  · subst e4
    obtain rfl := e3 rfl
    exact ⟨_, μ1, μ1', rfl, rfl, hp⟩
  · simp only [List.mem_cons, List.not_mem_nil, or_false] at e4
    subst e4
    exact ⟨_, μ1, μ1', rfl, rfl, hp⟩

theorem pq_save {μ μ' : Mem} (a1 : Int32) (hpq : PQ μ μ') : R2 (f_L_save μ a1) (f_L_save μ' a1) := by
  obtain ⟨ν, h, h', hm, hm'⟩ := hpq
  obtain ⟨k, v, v', μ1, μ1', ν1, e1, e2, e3, e4, r1, r2⟩ := pr_call (by decide) (by decide) (call_save a1 h) (call_save a1 h')
  have hp : PQ μ1 μ1' := ⟨ν1, r1, r2, (mj_save hm e1), (mj_save hm' e2)⟩
  unfold f_L_save
  rw [e1, e2, Option.bind_some, Option.bind_some]
  rcases e4 with e4 | e4
  · subst e4
    obtain rfl := e3 rfl
    exact ⟨_, μ1, μ1', rfl, rfl, hp⟩
  · simp only [List.mem_cons, List.not_mem_nil, or_false] at e4
    subst e4
    exact ⟨_, μ1, μ1', rfl, rfl, hp⟩

theorem pq_restore {μ μ' : Mem} (a1 : Int32) (hpq : PQ μ μ') : R2 (f_L_restore μ a1) (f_L_restore μ' a1) := by
  obtain ⟨ν, h, h', hm, hm'⟩ := hpq
  obtain ⟨k, v, v', μ1, μ1', ν1, e1, e2, e3, e4, r1, r2⟩ := pr_call (by decide) (by decide) (call_restore a1 h) (call_restore a1 h')
  have hp : PQ μ1 μ1' := ⟨ν1, r1, r2, (mj_restore hm e1), (mj_restore hm' e2)⟩
  unfold f_L_restore
  rw [e1, e2, Option.bind_some, Option.bind_some]
  rcases e4 with e4 | e4
  · subst e4
    obtain rfl := e3 rfl
    exact ⟨_, μ1, μ1', rfl, rfl, hp⟩
  · simp only [List.mem_cons, List.not_mem_nil, or_false] at e4
    rcases e4 with rfl | rfl
    · exact ⟨_, μ1, μ1', rfl, rfl, hp⟩
    · exact ⟨_, μ1, μ1', rfl, rfl, hp⟩

theorem pq_winter {μ μ' : Mem} (hpq : PQ μ μ') : R2 ((f_X4_winter μ).bind fun r => if r.1 = 0 then some (r.2.1.toInt64, r.2.2) else none) ((f_X4_winter μ').bind fun r => if r.1 = 0 then some (r.2.1.toInt64, r.2.2) else none) := by
  obtain ⟨ν, h, h', hm, hm'⟩ := hpq
  obtain ⟨k, v, v', μ1, μ1', ν1, e1, e2, e3, e4, r1, r2⟩ := pr_call (by decide) (by decide) (call_winter h) (call_winter h')
  have hp : PQ μ1 μ1' := ⟨ν1, r1, r2, (mj_wrap (μ := μ) (fun _ z => mj_act hm z) e1), (mj_wrap (μ := μ') (fun _ z => mj_act hm' z) e2)⟩
  rw [e1, e2, Option.bind_some, Option.bind_some]
  have e5 : k = 0 := e4.resolve_right (fun z => nomatch z)
  subst e5
  obtain rfl := e3 rfl
  exact ⟨_, μ1, μ1', rfl, rfl, hp⟩
theorem pq_actl {μ μ' : Mem} (a1 a2 : Int32) (n : Nat) (t0 t1 v3 : Int32) (hpq : PQ μ μ') : R2 (fl_L_act a1 a2 (n + 1) μ t0 t1 v3) (fl_L_act a1 a2 (n + 1) μ' t0 t1 v3) := by
  show R2 (fb_L_act_1 a1 a2 (fl_L_act a1 a2 n) μ t0 t1 v3) (fb_L_act_1 a1 a2 (fl_L_act a1 a2 n) μ' t0 t1 v3)
  unfold fb_L_act_1
  exact (r2_if (r2_tail (pq_days _ _ _ hpq)) (r2_tail (pq_days _ _ _ hpq)))
/-- one call of the law's, on both -/
theorem pq_act {μ μ' : Mem} (a1 a2 : Int32) (hpq : PQ μ μ') : R2 (f_L_act μ a1 a2) (f_L_act μ' a1 a2) := by
  unfold f_L_act
  exact (r2_if (r2_tail (pq_site hpq)) (r2_if (r2_tail (pq_tube _ _ hpq)) (r2_if (r2_tail (pq_pipe _ _ hpq)) (r2_if (r2_tail (pq_pipe _ _ hpq)) (r2_if (r2_tail (pq_fence _ _ hpq)) (r2_if (r2_tail (pq_fence _ _ hpq)) (r2_if (r2_tail (pq_shovel _ hpq)) (r2_if (r2_if (r2_tail (pq_set _ _ hpq)) (r2_if (r2_tail (pq_set _ _ hpq)) (r2_tail (pq_set _ _ hpq)))) (r2_if (pq_winter hpq) (r2_if (r2_tail (pq_undo hpq)) (r2_if (r2_tail (pq_undo hpq)) (r2_if (r2_if (r2_tail (pq_save _ hpq)) (r2_tail (pq_restore _ hpq))) (r2_if (r2_tail (pq_days _ _ _ hpq)) (r2_if (r2_tail (pq_days _ _ _ hpq)) (r2_if (r2_tail (pq_days _ _ _ hpq)) (r2_if (pq_actl _ _ _ _ _ _ hpq) (pq_actl _ _ _ _ _ _ hpq)))))))))))))))))
/-- the three that can't throw -/
theorem pq_clearText {μ μ' : Mem} (hpq : PQ μ μ') : ∃ v v' μ1 μ1', f_X4_clearText μ = some (v, μ1) ∧ f_X4_clearText μ' = some (v', μ1') ∧ PQ μ1 μ1' := by
  obtain ⟨ν, h, h', hm, hm'⟩ := hpq
  obtain ⟨v, μ1, ν1, e1, e2, r1⟩ := call_clearText h
  obtain ⟨v', μ1', ν1', e1', e2', r1'⟩ := call_clearText h'
  rw [e2] at e2'
  cases e2'
  refine ⟨_, _, μ1, μ1', e1, e1', ν1, r1, r1', ?_, ?_⟩
  · cases e1
    exact mj_hi hm (by omega)
  · cases e1'
    exact mj_hi hm' (by omega)
theorem pq_errorPosition {μ μ' : Mem} (hpq : PQ μ μ') : ∃ v μ1 μ1', f_X4_errorPosition μ = some (v, μ1) ∧ f_X4_errorPosition μ' = some (v, μ1') ∧ PQ μ1 μ1' := by
  obtain ⟨ν, h, h', hm, hm'⟩ := hpq
  obtain ⟨v, μ1, ν1, e1, e2, r1⟩ := call_errorPosition h
  obtain ⟨v', μ1', ν1', e1', e2', r1'⟩ := call_errorPosition h'
  rw [e2] at e2'
  cases e2'
  refine ⟨_, μ1, μ1', e1, e1', ν1, r1, r1', ?_, ?_⟩
  · unfold f_X4_errorPosition at e1
    obtain ⟨r, _, e1⟩ := bnd e1
    cases e1
    exact mj_hi hm (by omega)
  · unfold f_X4_errorPosition at e1'
    obtain ⟨r, _, e1'⟩ := bnd e1'
    cases e1'
    exact mj_hi hm' (by omega)
theorem pq_deepest {μ μ' : Mem} (hpq : PQ μ μ') : ∃ v, f_X4_deepest μ = some v ∧ f_X4_deepest μ' = some v := by
  obtain ⟨ν, h, h', hm, hm'⟩ := hpq
  obtain ⟨v, ν1, e1, e2, r1⟩ := call_deepest h
  obtain ⟨v', ν1', e1', e2', r1'⟩ := call_deepest h'
  rw [e2] at e2'
  cases e2'
  exact ⟨_, e1, e1'⟩
