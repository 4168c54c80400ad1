/-! what would be changes the trial's ground alone -/
def T1 (μ m : Mem) : Prop := ∀ i, i ≠ 1 → m i = μ i
theorem t1_rf (μ : Mem) : T1 μ μ := fun _ _ => rfl
theorem t1_up {μ m : Mem} {x : Row} (h : T1 μ m) : T1 μ (va_up m 1 x) := fun i hi => by rw [mu_off _ _ hi, h i hi]
theorem t1_tr {a b c : Mem} (h : T1 a b) (h2 : T1 b c) : T1 a c := fun i hi => (h2 i hi).trans (h i hi)
def P1 {β : Type} (pr : β → Mem) (μ : Mem) (X : Option β) : Prop := ∀ b, X = some b → T1 μ (pr b)
theorem p1_none {β : Type} {pr : β → Mem} {μ : Mem} : P1 pr μ none := fun _ h => nomatch h
theorem p1_some {β : Type} {pr : β → Mem} {μ : Mem} {b : β} (h : T1 μ (pr b)) : P1 pr μ (some b) := fun _ e => by cases e; exact h
theorem p1_bind {α β : Type} {pr : β → Mem} {μ : Mem} {o : Option α} {k : α → Option β} (h : ∀ a, o = some a → P1 pr μ (k a)) : P1 pr μ (o.bind k) := fun b e => by
  obtain ⟨a, h1, h2⟩ := bnd e
  exact h a h1 b h2
theorem p1_if {β : Type} {pr : β → Mem} {μ : Mem} {c : Prop} {hc : Decidable c} {A B : Option β} (h1 : P1 pr μ A) (h2 : P1 pr μ B) : P1 pr μ (@ite (Option β) c hc A B) := fun b e => by
  by_cases q : c
  · exact h1 b (ifp q e)
  · exact h2 b (ifn q e)
theorem p1_tr {β : Type} {pr : β → Mem} {μ m : Mem} {X : Option β} (h : T1 μ m) (h2 : P1 pr m X) : P1 pr μ X := fun b e => t1_tr h (h2 b e)
theorem t1_turnl (a : Int32) : ∀ n μ v, P1 (fun m : Mem => m) μ (fl_X4_simulatedTurn a n μ v)
  | 0, _, _ => p1_none
  | n + 1, μ, v => by
    show P1 _ μ (fb_X4_simulatedTurn_1 a (fl_X4_simulatedTurn a n) μ v)
    unfold fb_X4_simulatedTurn_1
    exact p1_bind fun _ _ => p1_some (t1_up (t1_rf μ))
theorem t1_turn (μ : Mem) (a : Int32) : P1 (fun m : Mem => m) μ (f_X4_simulatedTurn μ a) := by
  unfold f_X4_simulatedTurn
  repeat' first
    | exact t1_turnl _ _ _ _
    | exact p1_bind fun _ _ => p1_some (t1_up (t1_rf μ))
    | refine p1_if ?_ ?_
theorem t1_siml (a1 : Int64) (a3 : Int32) : ∀ n μ v w, P1 (fun b : Nat × Int32 × Mem => b.2.2) μ (fl_X4_simulate a1 a3 n μ v w)
  | 0, _, _, _ => p1_none
  | n + 1, μ, v, w => by
    show P1 _ μ (fb_X4_simulate_1 a1 a3 (fl_X4_simulate a1 a3 n) μ v w)
    unfold fb_X4_simulate_1
    refine p1_if (p1_bind fun _ _ => p1_bind fun _ _ => p1_some (t1_rf μ)) (p1_bind fun m hm => ?_)
    exact p1_tr (t1_turn μ _ m hm) (t1_siml a1 a3 n m _ _)
theorem t1_simulate (μ : Mem) (a1 : Int64) (a3 : Int32) : P1 (fun b : Nat × Int32 × Mem => b.2.2) μ (f_X4_simulate μ a1 a3) := by
  unfold f_X4_simulate
  exact p1_bind fun _ _ => p1_if (p1_bind fun _ _ => p1_tr (t1_up (t1_rf μ)) (t1_siml _ _ _ _ _ _)) (p1_some (t1_rf μ))
theorem t1_cmdl (a : Int32) : ∀ n μ v w, P1 (fun b : Int32 × Mem => b.2) μ (fl_X4_scriptCommand a n μ v w)
  | 0, _, _, _ => p1_none
  | n + 1, μ, v, w => by
    show P1 _ μ (fb_X4_scriptCommand_1 a (fl_X4_scriptCommand a n) μ v w)
    unfold fb_X4_scriptCommand_1
    exact p1_if (p1_some (t1_rf μ)) (p1_some (t1_rf μ))
theorem t1_cmd (μ : Mem) (a : Int32) : P1 (fun b : Int32 × Mem => b.2) μ (f_X4_scriptCommand μ a) := by
  unfold f_X4_scriptCommand
  repeat' first
    | exact p1_none
    | exact p1_some (t1_rf μ)
    | exact p1_some (t1_up (t1_rf μ))
    | exact t1_cmdl _ _ _ _ _
    | refine p1_if ?_ ?_
    | refine p1_bind fun _ _ => ?_
theorem t1_runl (a1 : Int32) (a2 : Int64) : ∀ n lab μ v w, P1 (fun b : Nat × Int32 × Mem => b.2.2) μ (fl_X4_runScript a1 a2 n lab μ v w)
  | 0, _, _, _, _ => p1_none
  | n + 1, lab, μ, v, w => by
    have h1 : P1 (fun b : Nat × Int32 × Mem => b.2.2) μ (fb_X4_runScript_1 a1 a2 (fl_X4_runScript a1 a2 n) μ v w) := by
      unfold fb_X4_runScript_1
      exact p1_if (p1_if (p1_some (t1_rf μ)) (p1_if (p1_bind fun _ _ => p1_tr (t1_up (t1_rf μ)) (t1_runl a1 a2 n _ _ _ _)) (p1_some (t1_rf μ)))) (t1_runl a1 a2 n _ _ _ _)
    have h2 : P1 (fun b : Nat × Int32 × Mem => b.2.2) μ (fb_X4_runScript_2 a1 a2 (fl_X4_runScript a1 a2 n) μ v w) := by
      unfold fb_X4_runScript_2
      exact p1_if (p1_some (t1_rf μ)) (p1_bind fun _ _ => p1_bind fun m hm => p1_if (p1_some (t1_cmd μ _ m hm)) (p1_tr (t1_cmd μ _ m hm) (t1_runl a1 a2 n _ _ _ _)))
    unfold fl_X4_runScript
    split
    · exact h1
    · exact h2
theorem t1_runScript (μ : Mem) (a1 : Int32) (a2 : Int64) : P1 (fun b : Nat × Int32 × Mem => b.2.2) μ (f_X4_runScript μ a1 a2) := by
  unfold f_X4_runScript
  exact p1_bind fun _ _ => p1_if (t1_runl _ _ _ _ _ _ _) (p1_some (t1_rf μ))
theorem t1_gonel (a1 a2 : Int32) : ∀ n μ v, P1 (fun b : Nat × Int32 × Mem => b.2.2) μ (fl_X4_goneIn a1 a2 n μ v)
  | 0, _, _ => p1_none
  | n + 1, μ, v => by
    show P1 _ μ (fb_X4_goneIn_1 a1 a2 (fl_X4_goneIn a1 a2 n) μ v)
    unfold fb_X4_goneIn_1
    exact p1_if (p1_some (t1_rf μ)) (p1_bind fun _ _ => p1_if (p1_some (t1_rf μ)) (p1_bind fun _ _ => p1_tr (t1_up (t1_rf μ)) (t1_gonel a1 a2 n _ _)))
theorem t1_goneIn (μ : Mem) (a1 a2 : Int32) : P1 (fun b : Nat × Int32 × Mem => b.2.2) μ (f_X4_goneIn μ a1 a2) := by
  unfold f_X4_goneIn
  exact p1_bind fun _ _ => p1_if (p1_bind fun _ _ => p1_if (p1_bind fun _ _ => p1_if p1_none (p1_tr (t1_up (t1_rf μ)) (t1_gonel _ _ _ _ _))) (p1_some (t1_rf μ))) (p1_some (t1_rf μ))
theorem t1_reachl (a1 a2 a3 : Int32) : ∀ n μ v, P1 (fun b : Nat × Int32 × Mem => b.2.2) μ (fl_X4_reachedIn a1 a2 a3 n μ v)
  | 0, _, _ => p1_none
  | n + 1, μ, v => by
    show P1 _ μ (fb_X4_reachedIn_1 a1 a2 a3 (fl_X4_reachedIn a1 a2 a3 n) μ v)
    unfold fb_X4_reachedIn_1
    exact p1_if (p1_some (t1_rf μ)) (p1_bind fun _ _ => p1_if (p1_bind fun _ _ => p1_tr (t1_up (t1_rf μ)) (t1_reachl a1 a2 a3 n _ _)) (p1_some (t1_rf μ)))
theorem t1_reachedIn (μ : Mem) (a1 a2 a3 : Int32) : P1 (fun b : Nat × Int32 × Mem => b.2.2) μ (f_X4_reachedIn μ a1 a2 a3) := by
  unfold f_X4_reachedIn
  exact p1_bind fun _ _ => p1_if (p1_bind fun _ _ => p1_if (p1_bind fun _ _ => p1_if (p1_bind fun _ _ => p1_if p1_none (p1_tr (t1_up (t1_rf μ)) (t1_reachl _ _ _ _ _ _))) (p1_some (t1_rf μ))) (p1_some (t1_rf μ))) (p1_some (t1_rf μ))
theorem t1_bestl (a1 a2 a3 a4 : Int32) : ∀ n μ v w y, P1 (fun b : Nat × Int32 × Mem => b.2.2) μ (fl_X4_bestFence a1 a2 a3 a4 n μ v w y)
  | 0, _, _, _, _ => p1_none
  | n + 1, μ, v, w, y => by
    show P1 _ μ (fb_X4_bestFence_1 a1 a2 a3 a4 (fl_X4_bestFence a1 a2 a3 a4 n) μ v w y)
    unfold fb_X4_bestFence_1
    exact p1_if (p1_some (t1_rf μ)) (p1_bind fun _ _ => p1_if p1_none (p1_bind fun _ _ => p1_if p1_none (p1_bind fun _ _ => p1_if (p1_tr (t1_up (t1_up (t1_up (t1_rf μ)))) (t1_bestl a1 a2 a3 a4 n _ _ _ _)) (p1_tr (t1_up (t1_up (t1_up (t1_rf μ)))) (t1_bestl a1 a2 a3 a4 n _ _ _ _)))))
theorem t1_bestFence (μ : Mem) (a1 a2 a3 a4 : Int32) : P1 (fun b : Nat × Int32 × Mem => b.2.2) μ (f_X4_bestFence μ a1 a2 a3 a4) := by
  unfold f_X4_bestFence
  exact p1_bind fun _ _ => p1_if (p1_bind fun _ _ => p1_if (p1_bind fun _ _ => p1_if (p1_bind fun _ _ => p1_if (t1_bestl _ _ _ _ _ _ _ _ _) (p1_some (t1_rf μ))) (p1_some (t1_rf μ))) (p1_some (t1_rf μ))) (p1_some (t1_rf μ))
theorem t1_heaveIn (μ : Mem) (a1 a2 a3 : Int32) : P1 (fun b : Nat × Int32 × Mem => b.2.2) μ (f_X4_heaveIn μ a1 a2 a3) := by
  unfold f_X4_heaveIn
  exact p1_bind fun _ _ => p1_if (p1_bind fun _ _ => p1_if (p1_bind fun _ _ => p1_if (p1_bind fun _ _ => p1_if p1_none (p1_bind fun _ _ => p1_if p1_none (p1_some (t1_up (t1_up (t1_rf μ)))))) (p1_some (t1_rf μ))) (p1_some (t1_rf μ))) (p1_some (t1_rf μ))
/-! all grounds but the trial's are as they should be, whatever is called -/
def MJ (μ : Mem) : Prop := ∀ i, i < 19 → i ≠ 1 → GG (μ i)
theorem mj_t1 {μ m : Mem} (h : MJ μ) (ht : T1 μ m) : MJ m := fun i hi h1 => by rw [ht i h1]; exact h i hi h1
theorem mj_up {μ : Mem} {i : Nat} {g : Row} (h : MJ μ) (hg : GG g) : MJ (va_up μ i g) := fun j hj h1 => by
  by_cases e : j = i
  · subst e; rw [mu_at]; exact hg
  · rw [mu_off _ _ e]; exact h j hj h1
theorem mj_hi {μ : Mem} {i : Nat} {g : Row} (h : MJ μ) (hi : 19 ≤ i) : MJ (va_up μ i g) := fun j hj h1 => by
  rw [mu_off _ _ (by omega)]; exact h j hj h1
theorem mj_0 {μ : Mem} (h : MJ μ) : GG (μ 0) := h 0 (by omega) (by omega)
theorem cp_of {g o r : Row} (h : f_X0_copyFrom g o = some r) : r = o := by
  rw [X0_copyFrom] at h
  exact (Option.some.inj h).symm
theorem mj_rem {μ m : Mem} (h : MJ μ) (hm : f_X1_remember μ = some m) : MJ m := by
  unfold f_X1_remember at hm
  obtain ⟨_, hm⟩ := ifg hm
  obtain ⟨r2, h2, hm⟩ := bnd hm
  have e := cp_of h2
  subst e
  split at hm
  · cases hm
    exact mj_hi (mj_up h (mj_0 h)) (by omega)
  · cases hm
    exact mj_hi (mj_up h (mj_0 h)) (by omega)
theorem mj_act {μ : Mem} {a1 a2 a3 a4 : Int32} {b : Nat × Int32 × Mem} (h : MJ μ) (hb : f_X4_act μ a1 a2 a3 a4 = some b) : MJ b.2.2 := by
  unfold f_X4_act at hb
  obtain ⟨r1, _, hb⟩ := bnd hb
  split at hb
  · cases hb; exact h
  · split at hb
    · cases hb; exact h
    · split at hb
      · cases hb; exact h
      · obtain ⟨r6, h6, hb⟩ := bnd hb
        obtain ⟨r8, h8, hb⟩ := bnd hb
        cases hb
        have h6' := mj_rem h h6
        exact mj_up h6' (gg_perf (mj_0 h6') (v := r8.1) (g' := r8.2) h8)
theorem mj_wrap {μ : Mem} {X : Option (Nat × Int32 × Mem)} {b : Nat × Int32 × Mem} (hX : ∀ b, X = some b → MJ b.2.2) (hb : (X.bind fun r1 => if r1.1 = 0 then some (0, r1.2.1, r1.2.2) else some (r1.1, 0, r1.2.2)) = some b) : MJ b.2.2 := by
  obtain ⟨r1, h1, hb⟩ := bnd hb
  have := hX r1 h1
  split at hb
  · cases hb; exact this
  · cases hb; exact this
theorem mj_undo {μ : Mem} {b : Nat × Int32 × Mem} {c f : Nat} (h : MJ μ) (p0 : μ 20 0 = nI c) (p1 : μ 20 1 = nI f) (hc : c ≤ 14) (hf : f < 14) (hb : f_X4_undo μ = some b) : MJ b.2.2 := by
  by_cases h0 : c = 0
  · subst h0
    unfold f_X4_undo at hb
    rw [p0, if_neg (by decide)] at hb
    cases hb
    exact h
  · obtain ⟨c', rfl⟩ : ∃ c', c = c' + 1 := ⟨c - 1, by omega⟩
    have e1 : nI (c' + 1) - 1 = nI c' := nI_m1 c'
    have e2 : nI f + nI c' - (nI f + nI c') / 14 * 14 = nI ((f + c') % 14) := by rw [add_nI]; exact rem14 (by omega)
    have ho : ¬ oob (nI ((f + c') % 14)) 14 := by rw [oob_nI (by omega)]; omega
    have ec : (nI ((f + c') % 14)).toNatClampNeg = (f + c') % 14 := cl_nI (by omega)
    unfold f_X4_undo f_X1_takeBack at hb
    have hp : (0 : Int32) < nI (c' + 1) := by rw [show (0 : Int32) = nI 0 from rfl, lt_nI (by omega) (by omega)]; omega
    have hp2 : ¬ nI (c' + 1) ≤ 0 := Int32.not_le.mpr hp
    have u1 : upd (μ 20) 0 (nI c') 1 = nI f := by rw [pk_un (by omega), p1]
    have u0 : upd (μ 20) 0 (nI c') 0 = nI c' := pk_us
    have g3 : va_up μ 20 (upd (μ 20) 0 (nI c')) (3 + (f + c') % 14) = μ (3 + (f + c') % 14) := by rw [mu_off _ _ (by omega)]
    simp only [p0, hp, if_true, hp2, if_false, e1, mu_at, u1, u0, e2, ho, ec, g3, X0_copyFrom, Option.bind_some] at hb
    cases hb
    exact mj_up (mj_hi h (by omega)) (h _ (by omega) (by omega))
theorem mj_save {μ : Mem} {a : Int32} {b : Nat × Int32 × Mem} (h : MJ μ) (hb : f_X4_save μ a = some b) : MJ b.2.2 := by
  unfold f_X4_save at hb
  obtain ⟨r1, _, hb⟩ := bnd hb
  split at hb
  · obtain ⟨_, hb⟩ := ifg hb
    obtain ⟨r4, h4, hb⟩ := bnd hb
    obtain ⟨_, hb⟩ := ifg hb
    have e := cp_of h4
    subst e
    cases hb
    exact mj_hi (mj_up h (mj_0 h)) (by omega)
  · cases hb; exact h
theorem mj_forget {μ m : Mem} (h : MJ μ) (hm : f_X1_forgetAll μ = some m) : MJ m := by
  unfold f_X1_forgetAll at hm
  cases hm
  exact mj_hi (mj_hi h (by omega)) (by omega)
theorem mj_restore {μ : Mem} {a : Int32} {b : Nat × Int32 × Mem} (h : MJ μ) (hb : f_X4_restore μ a = some b) : MJ b.2.2 := by
  unfold f_X4_restore at hb
  obtain ⟨r1, _, hb⟩ := bnd hb
  split at hb
  · obtain ⟨ho, hb⟩ := ifg hb
    have hlt := oob_lt ho
    split at hb
    · cases hb; exact h
    · obtain ⟨r6, h6, hb⟩ := bnd hb
      have e := cp_of h6
      subst e
      obtain ⟨r8, h8, hb⟩ := bnd hb
      cases hb
      exact mj_forget (mj_up h (h _ (by omega) (by omega))) h8
  · cases hb; exact h
theorem mj_loadl : ∀ n lab μ v w (b : Nat × Int32 × Mem), MJ μ → fl_X4_load n lab μ v w = some b → MJ b.2.2
  | 0, _, _, _, _, _, _, hb => nomatch hb
  | n + 1, lab, μ, v, w, b, h, hb => by
    have h1 : fb_X4_load_1 (fl_X4_load n) μ v w = some b → MJ b.2.2 := by
      intro hb
      unfold fb_X4_load_1 at hb
      split at hb
      · obtain ⟨r9, _, hb⟩ := bnd hb
        exact mj_loadl n _ _ _ _ b (mj_hi h (by omega)) hb
      · obtain ⟨_, hb⟩ := ifg hb
        exact mj_loadl n _ _ _ _ b (mj_hi h (by omega)) hb
    have h2 : fb_X4_load_2 (fl_X4_load n) μ v w = some b → MJ b.2.2 := by
      intro hb
      unfold fb_X4_load_2 at hb
      split at hb
      · cases hb; exact h
      · obtain ⟨r13, _, hb⟩ := bnd hb
        split at hb
        · cases hb; exact h
        · obtain ⟨r16, _, hb⟩ := bnd hb
          obtain ⟨r18, h18, hb⟩ := bnd hb
          have g18 : GG r18.2 := by
            rw [mu_off _ _ (by omega : (0 : Nat) ≠ 19)] at h18
            exact gg_perf (mj_0 h) (v := r18.1) (g' := r18.2) h18
          split at hb
          · exact mj_loadl n _ _ _ _ b (mj_up (mj_hi h (by omega)) g18) hb
          · exact mj_loadl n _ _ _ _ b (mj_up (mj_hi h (by omega)) g18) hb
    unfold fl_X4_load at hb
    split at hb
    · exact h1 hb
    · exact h2 hb
theorem mj_load {μ : Mem} {b : Nat × Int32 × Mem} (h : MJ μ) (hb : f_X4_load μ = some b) : MJ b.2.2 := by
  unfold f_X4_load at hb
  obtain ⟨r1, _, hb⟩ := bnd hb
  split at hb
  · obtain ⟨r4, h4, hb⟩ := bnd hb
    have e := cp_of h4
    subst e
    obtain ⟨r6, h6, hb⟩ := bnd hb
    refine mj_loadl _ _ _ _ _ b (mj_forget (mj_up (mj_hi h (by omega)) ?_) h6) hb
    rw [mu_off _ _ (by omega)]
    exact h 2 (by omega) (by omega)
  · cases hb
    exact mj_hi h (by omega)
theorem mj_mu {μ m : Mem} (h : MJ μ) (hm : ∀ i, i < 19 → m i = μ i) : MJ m := fun i hi h1 => by rw [hm i hi]; exact h i hi h1
