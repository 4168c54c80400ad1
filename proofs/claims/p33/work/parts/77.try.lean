/-! a try on the trial ground: the class performs, the reference runs -/
def Tr (r : Row) (code a b c : Int32) (ν : Mem) (Y : Option (Int32 × Mem)) : Prop := ∃ (q : Bool) (v : Int32) (r' : Row) (d : Nat), gd 9999 d r' ∧ f_X0_perform (enc r) code a b c = some (v, enc r') ∧ (v = -1 ↔ q = false) ∧ Y = some (b2i q, va_up ν 2 r')
theorem nn_m1 {v : Int32} (h : 0 ≤ v) : ¬ v = -1 := fun e => by
  rw [e] at h
  exact absurd h (by decide)
theorem tr_left {r : Row} {d F : Nat} {code a b c : Int32} {ν : Mem} {Y : Option (Int32 × Mem)} (hg : gd 9999 d r) (hl : left r code a b c F) (hY : Y = some (0, va_up ν 2 r)) : Tr r code a b c ν Y :=
  ⟨false, -1, r, d, hg, hl.2, ⟨fun _ => rfl, fun _ => rfl⟩, hY⟩
theorem tr_done {r : Row} {code a b c : Int32} {ν M : Mem} {Z : Option (Int32 × Row)} {Y : Option (Int32 × Mem)} (hd : done r code a b c Z) (hM : ∀ x, va_up M 2 x = va_up ν 2 x) (hY : Y = Z.bind fun r7 => if r7.1 < 0 then some ((0 : Int32), va_up M 2 r7.2) else some ((1 : Int32), va_up M 2 r7.2)) : Tr r code a b c ν Y := by
  obtain ⟨v, r', _, h2, h3, h4, d, h5⟩ := hd
  refine ⟨true, v, r', d, h5, h2, ⟨fun e => absurd e (nn_m1 h4), fun e => by cases e⟩, ?_⟩
  rw [hY, h3, Option.bind_some, if_neg (Int32.not_lt.mpr h4), hM]
  rfl
theorem tr_days {d : Nat} {r : Row} {ν : Mem} (t w n : Int32) (hg : gd 9999 d r) : Tr r 100 t w n ν (f_X5_runDays (va_up ν 2 r) t w n) := by
  rcases days_cases t w n hg with ⟨hl, hs⟩ | ⟨hl, hs, hr⟩ | ⟨hd, hs, hr⟩
  · refine tr_left hg hl ?_
    unfold f_X5_runDays
    rw [X5_isWeather_n hs, Option.bind_some, if_pos rfl]
  · refine tr_left hg hl ?_
    unfold f_X5_runDays
    rw [X5_isWeather_y hs, Option.bind_some, if_neg i10, mu_at, hr, Option.bind_some, if_pos rfl]
  · refine tr_done hd (M := va_up ν 2 r) (fun x => mu_two _ _ _ _) ?_
    unfold f_X5_runDays
    rw [X5_isWeather_y hs, Option.bind_some, if_neg i10, mu_at, hr, Option.bind_some, if_neg i10]
theorem tr_fence {d : Nat} {r : Row} {ν : Mem} (a1 a2 : Int32) (hg : gd 9999 d r) : Tr r 102 a1 a2 0 ν (f_X5_runFence (va_up ν 2 r) a1 a2) := by
  rcases fence_cases a1 a2 hg with ⟨hl, hs⟩ | ⟨hl, hs, hr⟩ | ⟨hd, hs, hr⟩
  · refine tr_left hg hl ?_
    unfold f_X5_runFence
    rw [mu_at, hs, Option.bind_some, if_pos rfl]
  · refine tr_left hg hl ?_
    unfold f_X5_runFence
    rw [mu_at, hs, Option.bind_some, if_neg i10, X5_in_n hr (by decide) (by decide), Option.bind_some, if_pos rfl]
  · refine tr_done hd (M := va_up ν 2 r) (fun x => mu_two _ _ _ _) ?_
    unfold f_X5_runFence
    rw [mu_at, hs, Option.bind_some, if_neg i10, X5_in_y hr (by decide) (by decide), Option.bind_some, if_neg i10]
theorem tr_shovel {d : Nat} {r : Row} {ν : Mem} (a1 : Int32) (hg : gd 9999 d r) : Tr r 120 a1 0 0 ν (f_X5_runShovel (va_up ν 2 r) a1) := by
  rcases shovel_cases a1 hg with ⟨hl, hs⟩ | ⟨hd, hs⟩
  · refine tr_left hg hl ?_
    unfold f_X5_runShovel
    rw [mu_at, hs, Option.bind_some, if_pos rfl]
  · refine tr_done hd (M := va_up ν 2 r) (fun x => mu_two _ _ _ _) ?_
    unfold f_X5_runShovel
    rw [mu_at, hs, Option.bind_some, if_neg i10]
theorem tr_set {d : Nat} {r : Row} {ν : Mem} (a v : Int32) (hg : gd 9999 d r) : Tr r 101 a v 0 ν (f_X5_runSet (va_up ν 2 r) a v) := by
  rcases set_cases a v hg with ⟨hl, hs⟩ | ⟨hd, hs⟩
  · refine tr_left hg hl ?_
    unfold f_X5_runSet
    rw [X5_isSetting_n hs, Option.bind_some, if_pos rfl]
  · refine tr_done hd (M := va_up ν 2 r) (fun x => mu_two _ _ _ _) ?_
    unfold f_X5_runSet
    rw [X5_isSetting_y hs, Option.bind_some, if_neg i10, mu_at]
theorem tr_tube {d l : Nat} {r : Row} {ν : Mem} (a1 : Int32) (hg : gd 9999 d r) (h1 : 1 ≤ l) (h30 : l ≤ 30) : Tr r 116 a1 (nI l) 0 ν (f_X5_runTube (va_up ν 2 r) a1 (nI l)) := by
  have hl30 : (1 : Int32) ≤ nI l ∧ nI l ≤ 30 := ⟨(le_nI (a := 1) (by omega) (by omega)).mpr h1, (le_nI (b := 30) (by omega) (by omega)).mpr h30⟩
  rcases tube_cases a1 (nI l) hg with ⟨hl, hs⟩ | ⟨hl, hs, hr⟩ | ⟨hl, hs, hr, h8⟩ | ⟨hd, hs, hr, m, hm, h8⟩
  · refine tr_left hg hl ?_
    unfold f_X5_runTube
    rw [mu_at, hs, Option.bind_some, if_pos rfl]
  · exact absurd hl30 hr
  · refine tr_left hg hl ?_
    unfold f_X5_runTube
    rw [mu_at, hs, Option.bind_some, if_neg i10, show (197 : Int32).toNatClampNeg = 197 from rfl, h8, if_pos (by decide)]
  · refine tr_done hd (M := va_up ν 2 r) (fun x => mu_two _ _ _ _) ?_
    unfold f_X5_runTube
    rw [mu_at, hs, Option.bind_some, if_neg i10, show (197 : Int32).toNatClampNeg = 197 from rfl, h8, if_neg (fun x => by rw [show (8 : Int32) = nI 8 from rfl, le_nI (by omega) (by omega)] at x; omega)]
theorem tr_pipe {d c : Nat} {r : Row} {ν : Mem} (a1 : Int32) (hg : gd 9999 d r) (hc : c < 30) : Tr r 112 a1 (nI c) 0 ν (f_X5_runPipe (va_up ν 2 r) a1 (nI c)) := by
  rcases pipe_cases a1 (nI c) hg with ⟨hl, hs⟩ | ⟨hl, hs, hr, _⟩ | ⟨hl, hs, hr, h8⟩ | ⟨hd, hs, hr, h8⟩
  · refine tr_left hg hl ?_
    unfold f_X5_runPipe
    rw [mu_at, hs, Option.bind_some, if_pos rfl]
  · rw [X5_isCell_y hc] at hr
    cases hr
  · refine tr_left hg hl ?_
    unfold f_X5_runPipe
    rw [mu_at, hs, Option.bind_some, if_neg i10, h8, Option.bind_some, if_pos rfl]
  · refine tr_done hd (M := va_up ν 2 r) (fun x => mu_two _ _ _ _) ?_
    unfold f_X5_runPipe
    rw [mu_at, hs, Option.bind_some, if_neg i10, h8, Option.bind_some, if_neg i10]
/-! a script's command -/
def Cm (μ ν : Mem) (X Y : Option (Int32 × Mem)) : Prop := ∃ (q : Bool) (r' : Row) (d : Nat), gd 9999 d r' ∧ X = some (b2i q, va_up μ 1 (enc r')) ∧ Y = some (b2i q, va_up ν 2 r')
theorem cm_x {r : Row} {code a b c : Int32} {μ ν M : Mem} {Y Y2 : Option (Int32 × Mem)} {X : Option (Int32 × Mem)} (ht : Tr r code a b c ν Y) (hM : ∀ x, va_up M 1 x = va_up μ 1 x) (hX : X = (f_X0_perform (enc r) code a b c).bind fun r2 => if r2.1 = (-1 : Int32) then some ((0 : Int32), va_up M 1 r2.2) else some ((1 : Int32), va_up M 1 r2.2))
    (hY : ∀ (q : Bool) (m : Mem), Y = some (b2i q, m) → Y2 = some (b2i q, m)) : Cm μ ν X Y2 := by
  obtain ⟨q, v, r', d, h1, h2, h3, h4⟩ := ht
  refine ⟨q, r', d, h1, ?_, hY q _ h4⟩
  rw [hX, h2, Option.bind_some, hM]
  cases q with
  | false => rw [if_pos (h3.mpr rfl)]; rfl
  | true => rw [if_neg (fun e => by cases h3.mp e)]; rfl
theorem bq1 {q : Bool} {m : Mem} {Y : Option (Int32 × Mem)} (h : Y = some (b2i q, m)) : (Y.bind fun r2 => if r2.1 = 0 ∨ r2.1 = 1 then some (r2.1, r2.2) else none) = some (b2i q, m) := by
  rw [h, Option.bind_some, if_pos (b2i_01 q)]
theorem bq2 {q : Bool} {m : Mem} {Y : Option (Int32 × Mem)} (h : Y = some (b2i q, m)) : (Y.bind fun r7 => if r7.1 = 0 then some ((0 : Int32), r7.2) else some ((1 : Int32), r7.2)) = some (b2i q, m) := by
  rw [h, Option.bind_some]
  cases q with
  | false => exact if_pos rfl
  | true => exact if_neg i10
theorem cm_b {r : Row} {d : Nat} {μ ν : Mem} {X Y : Option (Int32 × Mem)} (q : Bool) (hg : gd 9999 d r) (hX : X = some (b2i q, va_up μ 1 (enc r))) (hY : Y = some (b2i q, va_up ν 2 r)) : Cm μ ν X Y := ⟨q, r, d, hg, hX, hY⟩
theorem dv {g k : Nat} (hg : g < 2147483648) (h0 : 0 < k) (hk : k < 2147483648) : nI g / nI k = nI (g / k) := pk_div hg h0 hk
theorem sn {r : Row} {m s : Nat} (h : r 196 = nI m) (hm : m ≤ 4) (hs : s < 100) : (s < m ∧ f_X0_hasSite (enc r) (nI s) = some 1 ∧ f_X5_isSite r (nI s) = some 1) ∨ (f_X0_hasSite (enc r) (nI s) = some 0 ∧ f_X5_isSite r (nI s) = some 0) := by
  by_cases h1 : s < m
  · exact Or.inl ⟨h1, X0_hasSite_y h hm h1, X5_isSite_y h hm h1⟩
  · have hx : nI s < 0 ∨ nI m ≤ nI s := Or.inr ((le_nI (by omega) (by omega)).mpr (by omega))
    exact Or.inr ⟨X0_hasSite_n h hx, X5_isSite_n h hm hx⟩
theorem sp {r : Row} {m s : Nat} (h : r 198 = nI m) (hm : m ≤ 8) (hs : s < 100) : (s < m ∧ f_X0_hasPipe (enc r) (nI s) = some 1 ∧ f_X5_isPipe r (nI s) = some 1) ∨ (f_X0_hasPipe (enc r) (nI s) = some 0 ∧ f_X5_isPipe r (nI s) = some 0) := by
  by_cases h1 : s < m
  · exact Or.inl ⟨h1, X0_hasPipe_y h hm h1, X5_isPipe_y h hm h1⟩
  · have hx : nI s < 0 ∨ nI m ≤ nI s := Or.inr ((le_nI (by omega) (by omega)).mpr (by omega))
    exact Or.inr ⟨X0_hasPipe_n h hx, X5_isPipe_n h hm hx⟩
theorem qf_0_1 : (nI 0 = (1 : Int32)) = False := eq_false (by decide)
theorem qf_0_2 : (nI 0 = (2 : Int32)) = False := eq_false (by decide)
theorem qf_0_3 : (nI 0 = (3 : Int32)) = False := eq_false (by decide)
theorem qf_0_4 : (nI 0 = (4 : Int32)) = False := eq_false (by decide)
theorem qf_0_5 : (nI 0 = (5 : Int32)) = False := eq_false (by decide)
theorem qf_0_6 : (nI 0 = (6 : Int32)) = False := eq_false (by decide)
theorem qf_0_7 : (nI 0 = (7 : Int32)) = False := eq_false (by decide)
theorem qf_0_8 : (nI 0 = (8 : Int32)) = False := eq_false (by decide)
theorem qf_0_9 : (nI 0 = (9 : Int32)) = False := eq_false (by decide)
theorem qf_1_1 : (nI 1 = (1 : Int32)) = True := eq_true rfl
theorem qf_1_2 : (nI 1 = (2 : Int32)) = False := eq_false (by decide)
theorem qf_1_3 : (nI 1 = (3 : Int32)) = False := eq_false (by decide)
theorem qf_1_4 : (nI 1 = (4 : Int32)) = False := eq_false (by decide)
theorem qf_1_5 : (nI 1 = (5 : Int32)) = False := eq_false (by decide)
theorem qf_1_6 : (nI 1 = (6 : Int32)) = False := eq_false (by decide)
theorem qf_1_7 : (nI 1 = (7 : Int32)) = False := eq_false (by decide)
theorem qf_1_8 : (nI 1 = (8 : Int32)) = False := eq_false (by decide)
theorem qf_1_9 : (nI 1 = (9 : Int32)) = False := eq_false (by decide)
theorem qf_2_1 : (nI 2 = (1 : Int32)) = False := eq_false (by decide)
theorem qf_2_2 : (nI 2 = (2 : Int32)) = True := eq_true rfl
theorem qf_2_3 : (nI 2 = (3 : Int32)) = False := eq_false (by decide)
theorem qf_2_4 : (nI 2 = (4 : Int32)) = False := eq_false (by decide)
theorem qf_2_5 : (nI 2 = (5 : Int32)) = False := eq_false (by decide)
theorem qf_2_6 : (nI 2 = (6 : Int32)) = False := eq_false (by decide)
theorem qf_2_7 : (nI 2 = (7 : Int32)) = False := eq_false (by decide)
theorem qf_2_8 : (nI 2 = (8 : Int32)) = False := eq_false (by decide)
theorem qf_2_9 : (nI 2 = (9 : Int32)) = False := eq_false (by decide)
theorem qf_3_1 : (nI 3 = (1 : Int32)) = False := eq_false (by decide)
theorem qf_3_2 : (nI 3 = (2 : Int32)) = False := eq_false (by decide)
theorem qf_3_3 : (nI 3 = (3 : Int32)) = True := eq_true rfl
theorem qf_3_4 : (nI 3 = (4 : Int32)) = False := eq_false (by decide)
theorem qf_3_5 : (nI 3 = (5 : Int32)) = False := eq_false (by decide)
theorem qf_3_6 : (nI 3 = (6 : Int32)) = False := eq_false (by decide)
theorem qf_3_7 : (nI 3 = (7 : Int32)) = False := eq_false (by decide)
theorem qf_3_8 : (nI 3 = (8 : Int32)) = False := eq_false (by decide)
theorem qf_3_9 : (nI 3 = (9 : Int32)) = False := eq_false (by decide)
theorem qf_4_1 : (nI 4 = (1 : Int32)) = False := eq_false (by decide)
theorem qf_4_2 : (nI 4 = (2 : Int32)) = False := eq_false (by decide)
theorem qf_4_3 : (nI 4 = (3 : Int32)) = False := eq_false (by decide)
theorem qf_4_4 : (nI 4 = (4 : Int32)) = True := eq_true rfl
theorem qf_4_5 : (nI 4 = (5 : Int32)) = False := eq_false (by decide)
theorem qf_4_6 : (nI 4 = (6 : Int32)) = False := eq_false (by decide)
theorem qf_4_7 : (nI 4 = (7 : Int32)) = False := eq_false (by decide)
theorem qf_4_8 : (nI 4 = (8 : Int32)) = False := eq_false (by decide)
theorem qf_4_9 : (nI 4 = (9 : Int32)) = False := eq_false (by decide)
theorem qf_5_1 : (nI 5 = (1 : Int32)) = False := eq_false (by decide)
theorem qf_5_2 : (nI 5 = (2 : Int32)) = False := eq_false (by decide)
theorem qf_5_3 : (nI 5 = (3 : Int32)) = False := eq_false (by decide)
theorem qf_5_4 : (nI 5 = (4 : Int32)) = False := eq_false (by decide)
theorem qf_5_5 : (nI 5 = (5 : Int32)) = True := eq_true rfl
theorem qf_5_6 : (nI 5 = (6 : Int32)) = False := eq_false (by decide)
theorem qf_5_7 : (nI 5 = (7 : Int32)) = False := eq_false (by decide)
theorem qf_5_8 : (nI 5 = (8 : Int32)) = False := eq_false (by decide)
theorem qf_5_9 : (nI 5 = (9 : Int32)) = False := eq_false (by decide)
theorem qf_6_1 : (nI 6 = (1 : Int32)) = False := eq_false (by decide)
theorem qf_6_2 : (nI 6 = (2 : Int32)) = False := eq_false (by decide)
theorem qf_6_3 : (nI 6 = (3 : Int32)) = False := eq_false (by decide)
theorem qf_6_4 : (nI 6 = (4 : Int32)) = False := eq_false (by decide)
theorem qf_6_5 : (nI 6 = (5 : Int32)) = False := eq_false (by decide)
theorem qf_6_6 : (nI 6 = (6 : Int32)) = True := eq_true rfl
theorem qf_6_7 : (nI 6 = (7 : Int32)) = False := eq_false (by decide)
theorem qf_6_8 : (nI 6 = (8 : Int32)) = False := eq_false (by decide)
theorem qf_6_9 : (nI 6 = (9 : Int32)) = False := eq_false (by decide)
theorem qf_7_1 : (nI 7 = (1 : Int32)) = False := eq_false (by decide)
theorem qf_7_2 : (nI 7 = (2 : Int32)) = False := eq_false (by decide)
theorem qf_7_3 : (nI 7 = (3 : Int32)) = False := eq_false (by decide)
theorem qf_7_4 : (nI 7 = (4 : Int32)) = False := eq_false (by decide)
theorem qf_7_5 : (nI 7 = (5 : Int32)) = False := eq_false (by decide)
theorem qf_7_6 : (nI 7 = (6 : Int32)) = False := eq_false (by decide)
theorem qf_7_7 : (nI 7 = (7 : Int32)) = True := eq_true rfl
theorem qf_7_8 : (nI 7 = (8 : Int32)) = False := eq_false (by decide)
theorem qf_7_9 : (nI 7 = (9 : Int32)) = False := eq_false (by decide)
theorem qf_8_1 : (nI 8 = (1 : Int32)) = False := eq_false (by decide)
theorem qf_8_2 : (nI 8 = (2 : Int32)) = False := eq_false (by decide)
theorem qf_8_3 : (nI 8 = (3 : Int32)) = False := eq_false (by decide)
theorem qf_8_4 : (nI 8 = (4 : Int32)) = False := eq_false (by decide)
theorem qf_8_5 : (nI 8 = (5 : Int32)) = False := eq_false (by decide)
theorem qf_8_6 : (nI 8 = (6 : Int32)) = False := eq_false (by decide)
theorem qf_8_7 : (nI 8 = (7 : Int32)) = False := eq_false (by decide)
theorem qf_8_8 : (nI 8 = (8 : Int32)) = True := eq_true rfl
theorem qf_8_9 : (nI 8 = (9 : Int32)) = False := eq_false (by decide)
theorem qf_9_1 : (nI 9 = (1 : Int32)) = False := eq_false (by decide)
theorem qf_9_2 : (nI 9 = (2 : Int32)) = False := eq_false (by decide)
theorem qf_9_3 : (nI 9 = (3 : Int32)) = False := eq_false (by decide)
theorem qf_9_4 : (nI 9 = (4 : Int32)) = False := eq_false (by decide)
theorem qf_9_5 : (nI 9 = (5 : Int32)) = False := eq_false (by decide)
theorem qf_9_6 : (nI 9 = (6 : Int32)) = False := eq_false (by decide)
theorem qf_9_7 : (nI 9 = (7 : Int32)) = False := eq_false (by decide)
theorem qf_9_8 : (nI 9 = (8 : Int32)) = False := eq_false (by decide)
theorem qf_9_9 : (nI 9 = (9 : Int32)) = True := eq_true rfl
set_option maxHeartbeats 2000000 in
theorem cm_command {g d : Nat} {r : Row} {μ ν : Mem} (hg : g < 1000000) (h : gd 9999 d r) : Cm μ ν (f_X4_scriptCommand (va_up μ 1 (enc r)) (nI g)) (f_X5_command (va_up ν 2 r) (nI g)) := by
  obtain ⟨m, hm, hm4⟩ := inv_196 h.1
  obtain ⟨p, hp, hp8⟩ := inv_198 h.1
  have eq : nI g / 100000 = nI (g / 100000) := pk_div (d := 100000) (by omega) (by omega) (by omega)
  have e2 : nI g / 10000 - nI g / 10000 / 10 * 10 = nI (g / 10000 % 10) := by rw [show nI g / 10000 = nI (g / 10000) from pk_div (d := 10000) (by omega) (by omega) (by omega)]; exact pk_rem (d := 10) (by omega) (by omega) (by omega)
  have e3 : nI g / 1000 - nI g / 1000 / 10 * 10 = nI (g / 1000 % 10) := by rw [show nI g / 1000 = nI (g / 1000) from pk_div (d := 1000) (by omega) (by omega) (by omega)]; exact pk_rem (d := 10) (by omega) (by omega) (by omega)
  have e4 : nI g / 100 - nI g / 100 / 10 * 10 = nI (g / 100 % 10) := by rw [show nI g / 100 = nI (g / 100) from pk_div (d := 100) (by omega) (by omega) (by omega)]; exact pk_rem (d := 10) (by omega) (by omega) (by omega)
  have e6 : nI g - nI g / 10 * 10 = nI (g % 10) := pk_rem (d := 10) (by omega) (by omega) (by omega)
  have e23 : nI g / 1000 - nI g / 1000 / 100 * 100 = nI (g / 1000 % 100) := by rw [show nI g / 1000 = nI (g / 1000) from pk_div (d := 1000) (by omega) (by omega) (by omega)]; exact pk_rem (d := 100) (by omega) (by omega) (by omega)
  have e45 : nI g / 10 - nI g / 10 / 100 * 100 = nI (g / 10 % 100) := by rw [show nI g / 10 = nI (g / 10) from pk_div (d := 10) (by omega) (by omega) (by omega)]; exact pk_rem (d := 100) (by omega) (by omega) (by omega)
  have er2 : nI g - nI g / 100 * 100 = nI (g % 100) := pk_rem (d := 100) (by omega) (by omega) (by omega)
  have er3 : nI g - nI g / 1000 * 1000 = nI (g % 1000) := pk_rem (d := 1000) (by omega) (by omega) (by omega)
  have er4 : nI g - nI g / 10000 * 10000 = nI (g % 10000) := pk_rem (d := 10000) (by omega) (by omega) (by omega)
  have z0 : ∀ {k : Nat}, k < 1000000 → (nI k = 0 ↔ k = 0) := fun {k} hk => by rw [show (0 : Int32) = nI 0 from rfl, eq_nI (by omega) (by omega)]
  have M1 : ∀ x, va_up (va_up μ 1 (enc r)) 1 x = va_up μ 1 x := fun x => mu_two _ _ _ _
  unfold f_X4_scriptCommand f_X5_command
  rw [eq, e2, e3, e4, e6, e23, e45, er2, er3, er4, mu_at, mu_at]
  have hq : g / 100000 = 0 ∨ g / 100000 = 1 ∨ g / 100000 = 2 ∨ g / 100000 = 3 ∨ g / 100000 = 4 ∨ g / 100000 = 5 ∨ g / 100000 = 6 ∨ g / 100000 = 7 ∨ g / 100000 = 8 ∨ g / 100000 = 9 := by omega
  rcases hq with hq | hq | hq | hq | hq | hq | hq | hq | hq | hq <;> rw [hq]
  · simp only [qf_0_1, qf_0_2, qf_0_3, qf_0_4, qf_0_5, qf_0_6, qf_0_7, qf_0_8, qf_0_9, if_true, if_false]
    exact cm_b false h rfl rfl
  · simp only [qf_1_1, if_true, if_false]
    exact cm_x (tr_days _ _ _ h) M1 rfl (fun q m hy => bq1 hy)
  · simp only [qf_2_1, qf_2_2, if_true, if_false]
    by_cases h1 : nI (g / 10 % 100) = 0
    · rw [if_pos h1, if_pos h1]
      exact cm_x (tr_days _ _ _ h) M1 rfl (fun q m hy => bq2 hy)
    · rw [if_neg h1, if_neg h1]
      exact cm_b false h rfl rfl
  · simp only [qf_3_1, qf_3_2, qf_3_3, if_true, if_false]
    by_cases h1 : nI (g / 1000 % 10) = 0
    · rw [if_pos h1, if_pos h1]
      by_cases h2 : nI (g % 10) = 0
      · rw [if_pos h2, if_pos h2]
        exact cm_x (tr_fence _ _ h) M1 rfl (fun q m hy => bq2 hy)
      · rw [if_neg h2, if_neg h2]
        exact cm_b false h rfl rfl
    · rw [if_neg h1, if_neg h1]
      exact cm_b false h rfl rfl
  · simp only [qf_4_1, qf_4_2, qf_4_3, qf_4_4, if_true, if_false]
    by_cases h1 : nI (g % 10000) = 0
    · rw [if_pos h1, if_pos h1]
      exact cm_x (tr_shovel _ h) M1 rfl (fun q m hy => bq2 hy)
    · rw [if_neg h1, if_neg h1]
      exact cm_b false h rfl rfl
  · simp only [qf_5_1, qf_5_2, qf_5_3, qf_5_4, qf_5_5, if_true, if_false]
    by_cases h1 : nI (g / 1000 % 10) = 0
    · rw [if_pos h1, if_pos h1]
      by_cases h2 : nI (g % 10) = 0
      · rw [if_pos h2, if_pos h2]
        exact cm_x (tr_set _ _ h) M1 rfl (fun q m hy => bq2 hy)
      · rw [if_neg h2, if_neg h2]
        exact cm_b false h rfl rfl
    · rw [if_neg h1, if_neg h1]
      exact cm_b false h rfl rfl
  · simp only [qf_6_1, qf_6_2, qf_6_3, qf_6_4, qf_6_5, qf_6_6, if_true, if_false]
    by_cases h1 : nI (g / 1000 % 10) = 0
    · rw [if_pos h1, if_pos h1]
      by_cases h2 : g % 10 < 2
      · have x1 : ¬ (1 : Int32) < nI (g % 10) := fun x => by rw [show (1 : Int32) = nI 1 from rfl, lt_nI (by omega) (by omega)] at x; omega
        have x2 : ¬ (2 : Int32) ≤ nI (g % 10) := fun x => by rw [show (2 : Int32) = nI 2 from rfl, le_nI (by omega) (by omega)] at x; omega
        rw [if_neg x1, if_neg x2]
        rcases sn hm hm4 (by omega : g / 10000 % 10 < 100) with ⟨hs, y1, y2⟩ | ⟨y1, y2⟩
        · rw [y1, y2, Option.bind_some, Option.bind_some, if_neg i10, if_neg i10]
          by_cases h3 : g / 10 % 100 < 30
          · have x3 : ¬ (30 : Int32) ≤ nI (g / 10 % 100) := fun x => by rw [show (30 : Int32) = nI 30 from rfl, le_nI (by omega) (by omega)] at x; omega
            have oj : ¬ oob (nI (g / 10000 % 10)) 4 := by rw [oob_nI (by omega)]; omega
            rw [if_neg x3, if_neg oj, cl_nI (by omega), E2_isFrozen (by omega) h3, X5_isCell_y h3, X5_frozen (by omega) h3, Option.bind_some, Option.bind_some, if_neg i10, Option.bind_some]
            have two : g % 10 = 0 ∨ g % 10 = 1 := by omega
            rcases two with e | e <;> rw [e]
            · rw [if_neg (by decide), if_neg (by decide)]
              show Cm μ ν (fb_X4_scriptCommand_1 (nI g) (fl_X4_scriptCommand (nI g) 999999999) _ 0 _) (fb_X5_command_1 (nI g) (fl_X5_command (nI g) 999999999) _ 0 _)
              unfold fb_X4_scriptCommand_1 fb_X5_command_1
              by_cases h4 : b2i (fR r (g / 10000 % 10) (g / 10 % 100)) = 0
              · rw [if_pos h4, if_pos h4]; exact cm_b true h rfl rfl
              · rw [if_neg h4, if_neg h4]; exact cm_b false h rfl rfl
            · rw [if_pos (by decide), if_pos (by decide)]
              show Cm μ ν (fb_X4_scriptCommand_1 (nI g) (fl_X4_scriptCommand (nI g) 999999999) _ 1 _) (fb_X5_command_1 (nI g) (fl_X5_command (nI g) 999999999) _ 1 _)
              unfold fb_X4_scriptCommand_1 fb_X5_command_1
              by_cases h4 : b2i (fR r (g / 10000 % 10) (g / 10 % 100)) = 1
              · rw [if_pos h4, if_pos h4]; exact cm_b true h rfl rfl
              · rw [if_neg h4, if_neg h4]; exact cm_b false h rfl rfl
          · have x3 : (30 : Int32) ≤ nI (g / 10 % 100) := (le_nI (a := 30) (by omega) (by omega)).mpr (by omega)
            rw [if_pos x3, X5_isCell_n (Or.inr x3), Option.bind_some, if_pos rfl]
            exact cm_b false h rfl rfl
        · rw [y1, y2, Option.bind_some, Option.bind_some, if_pos rfl, if_pos rfl]
          by_cases x3 : (30 : Int32) ≤ nI (g / 10 % 100)
          · rw [if_pos x3]; exact cm_b false h rfl rfl
          · rw [if_neg x3]; exact cm_b false h rfl rfl
      · have x1 : (1 : Int32) < nI (g % 10) := (lt_nI (a := 1) (by omega) (by omega)).mpr (by omega)
        have x2 : (2 : Int32) ≤ nI (g % 10) := (le_nI (a := 2) (by omega) (by omega)).mpr (by omega)
        rw [if_pos x1, if_pos x2]
        exact cm_b false h rfl rfl
    · rw [if_neg h1, if_neg h1]
      exact cm_b false h rfl rfl
  · simp only [qf_7_1, qf_7_2, qf_7_3, qf_7_4, qf_7_5, qf_7_6, qf_7_7, if_true, if_false]
    by_cases h1 : g % 10000 < 100
    · have x1 : ¬ (100 : Int32) ≤ nI (g % 10000) := fun x => by rw [show (100 : Int32) = nI 100 from rfl, le_nI (by omega) (by omega)] at x; omega
      rw [if_pos ((z0 (by omega)).mpr (by omega)), if_pos ((z0 (by omega)).mpr (by omega)), if_neg x1, show g % 100 = g % 10000 by omega]
      rcases sn hm hm4 (by omega : g / 10000 % 10 < 100) with ⟨hs, y1, y2⟩ | ⟨y1, y2⟩
      · have oj : ¬ oob (nI (g / 10000 % 10)) 4 := by rw [oob_nI (by omega)]; omega
        rw [y1, y2, Option.bind_some, Option.bind_some, if_neg i10, if_neg i10, if_neg oj, cl_nI (by omega), show (30 : Int32) = nI 30 from rfl, E2_frozenWithin (by omega) (by omega), X5_cells (by omega), Option.bind_some, Option.bind_some]
        by_cases h4 : nI (cf (fR r (g / 10000 % 10)) 0 30) < nI (g % 10000)
        · rw [if_pos h4, if_pos h4]; exact cm_b false h rfl rfl
        · rw [if_neg h4, if_neg h4]; exact cm_b true h rfl rfl
      · rw [y1, y2, Option.bind_some, Option.bind_some, if_pos rfl, if_pos rfl]
        exact cm_b false h rfl rfl
    · have x1 : (100 : Int32) ≤ nI (g % 10000) := (le_nI (a := 100) (by omega) (by omega)).mpr (by omega)
      rw [if_pos x1]
      by_cases h2 : nI (g / 1000 % 10) = 0
      · have h3 : ¬ nI (g / 100 % 10) = 0 := fun x => by
          rw [z0 (by omega)] at h2 x
          omega
        rw [if_pos h2, if_neg h3]
        exact cm_b false h rfl rfl
      · rw [if_neg h2]
        exact cm_b false h rfl rfl
  · simp only [qf_8_1, qf_8_2, qf_8_3, qf_8_4, qf_8_5, qf_8_6, qf_8_7, qf_8_8, if_true, if_false]
    by_cases h1 : g % 10000 < 10
    · have x1 : ¬ (10 : Int32) ≤ nI (g % 10000) := fun x => by rw [show (10 : Int32) = nI 10 from rfl, le_nI (by omega) (by omega)] at x; omega
      rw [if_pos ((z0 (by omega)).mpr (by omega)), if_pos ((z0 (by omega)).mpr (by omega)), if_neg x1, show g % 10 = g % 10000 by omega]
      rcases sn hm hm4 (by omega : g / 10000 % 10 < 100) with ⟨hs, y1, y2⟩ | ⟨y1, y2⟩
      · have oj : ¬ oob (nI (g / 10000 % 10)) 4 := by rw [oob_nI (by omega)]; omega
        rw [y1, y2, Option.bind_some, Option.bind_some, if_neg i10, if_neg i10, if_neg oj, cl_nI (by omega), show (30 : Int32) = nI 30 from rfl, E2_layersWithin (by omega) (by omega), X5_countLayers (by omega), Option.bind_some, Option.bind_some]
        by_cases h4 : nI (cf (bgn (fR r (g / 10000 % 10))) 0 30) = nI (g % 10000)
        · rw [if_pos h4, if_pos h4]; exact cm_b true h rfl rfl
        · rw [if_neg h4, if_neg h4]; exact cm_b false h rfl rfl
      · rw [y1, y2, Option.bind_some, Option.bind_some, if_pos rfl, if_pos rfl]
        exact cm_b false h rfl rfl
    · have x1 : (10 : Int32) ≤ nI (g % 10000) := (le_nI (a := 10) (by omega) (by omega)).mpr (by omega)
      rw [if_pos x1]
      by_cases h2 : nI (g / 1000 % 10) = 0
      · have h3 : ¬ nI (g / 10 % 100) = 0 := fun x => by
          rw [z0 (by omega)] at h2 x
          omega
        rw [if_pos h2, if_neg h3]
        exact cm_b false h rfl rfl
      · rw [if_neg h2]
        exact cm_b false h rfl rfl
  · simp only [qf_9_1, qf_9_2, qf_9_3, qf_9_4, qf_9_5, qf_9_6, qf_9_7, qf_9_8, qf_9_9, if_true, if_false]
    by_cases h1 : g % 10000 < 1000
    · have x1 : ¬ (1000 : Int32) ≤ nI (g % 10000) := fun x => by rw [show (1000 : Int32) = nI 1000 from rfl, le_nI (by omega) (by omega)] at x; omega
      rw [if_pos ((z0 (by omega)).mpr (by omega)), if_neg x1, show g % 1000 = g % 10000 by omega]
      rcases sp hp hp8 (by omega : g / 10000 % 10 < 100) with ⟨hs, y1, y2⟩ | ⟨y1, y2⟩
      · have oj : ¬ oob (nI (g / 10000 % 10)) 8 := by rw [oob_nI (by omega)]; omega
        have ei : (156 : Int32) + 5 * nI (g / 10000 % 10) + 2 = nI (158 + 5 * (g / 10000 % 10)) := by rw [show (156 : Int32) = nI 156 from rfl, show (5 : Int32) = nI 5 from rfl, show (2 : Int32) = nI 2 from rfl, mul_nI, add_nI, add_nI, show 156 + 5 * (g / 10000 % 10) + 2 = 158 + 5 * (g / 10000 % 10) by omega]
        have o2 : ¬ oob (nI (158 + 5 * (g / 10000 % 10))) 205 := by rw [oob_nI (by omega)]; omega
        rw [y1, y2, Option.bind_some, Option.bind_some, if_neg i10, if_neg i10, if_neg oj, ei, if_neg o2, cl_nI (by omega), cl_nI (by omega), enc_hi (by omega)]
        by_cases h4 : r (158 + 5 * (g / 10000 % 10)) < nI (g % 10000)
        · rw [if_pos h4, if_pos h4]; exact cm_b false h rfl rfl
        · rw [if_neg h4, if_neg h4]; exact cm_b true h rfl rfl
      · rw [y1, y2, Option.bind_some, Option.bind_some, if_pos rfl, if_pos rfl]
        exact cm_b false h rfl rfl
    · have x1 : (1000 : Int32) ≤ nI (g % 10000) := (le_nI (a := 1000) (by omega) (by omega)).mpr (by omega)
      have h2 : ¬ nI (g / 1000 % 10) = 0 := fun x => by
        rw [z0 (by omega)] at x
        omega
      rw [if_pos x1, if_neg h2]
      exact cm_b false h rfl rfl
