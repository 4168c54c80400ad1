/-! what the two sides' memories have to do with each other -/
def Zr (r : Row) : Prop := ∀ k, 205 ≤ k → r k = 0
def frow : Row := fun k => if k = 202 then 5 else if k = 203 then 2 else if k = 204 then 10 else 0
def bk (g : Row) (j : Nat) : Row := fun k => if k < 205 then g (205 * j + k) else 0
def Rnow (g r : Row) : Prop := g = enc r ∧ ∃ d, gd 9999 d r
def Rpast (st : Nat → Row) (p : Row) (g : Row) (n : Int32) : Prop := ∃ c f, p 0 = nI c ∧ p 1 = nI f ∧ n = nI c ∧ c ≤ 14 ∧ f < 14 ∧ ∀ j, j < c → st ((f + j) % 14) = enc (bk g j) ∧ ∃ d, gd 9999 d (bk g j)
def Rslot (st : Nat → Row) (p : Row) (g : Row) (q : Row) : Prop := ∀ s, s < 2 → p s = q s ∧ (q s = 0 ∨ (q s = 1 ∧ st s = enc (bk g s) ∧ ∃ d, gd 9999 d (bk g s)))
def Rtext (t g : Row) (n : Int32) : Prop := ∃ L, L ≤ 120 ∧ t 131 = nI L ∧ n = nI L ∧ ∀ j, j < L → t j = g j
def Rel (μ ν : Mem) : Prop := Rnow (μ 0) (ν 1) ∧ Zr (ν 2) ∧ μ 2 = enc frow ∧ Zr (ν 3) ∧ Rpast (fun i => μ (3 + i)) (μ 20) (ν 4) (ν 0 5) ∧ Rslot (fun i => μ (17 + i)) (μ 21) (ν 5) (ν 6) ∧ Rtext (μ 19) (ν 7) (ν 0 9)
theorem mu_two {α : Type} (f : Nat → α) (k : Nat) (a b : α) : va_up (va_up f k a) k b = va_up f k b := by
  funext j
  unfold va_up
  by_cases h : j = k <;> simp [h]
theorem mu_comm {α : Type} (f : Nat → α) {j k : Nat} (h : j ≠ k) (a b : α) : va_up (va_up f j a) k b = va_up (va_up f k b) j a := by
  funext i
  unfold va_up
  by_cases h1 : i = k
  · subst h1
    simp [Ne.symm h]
  · simp [h1]
def rf (ν : Mem) (a : Int32) : Mem := va_up ν 0 (upd (ν 0) 0 a)
theorem rf_0 {ν : Mem} {a : Int32} : rf ν a 0 0 = a := by
  unfold rf
  rw [mu_at, pk_us]
theorem rf_n {ν : Mem} {a : Int32} {j : Nat} (h : j ≠ 0) : rf ν a 0 j = ν 0 j := by
  unfold rf
  rw [mu_at, pk_un h]
theorem rf_o {ν : Mem} {a : Int32} {i : Nat} (h : i ≠ 0) : rf ν a i = ν i := by
  unfold rf
  rw [mu_off _ _ h]
theorem rel_rf {μ ν : Mem} {a : Int32} (h : Rel μ ν) : Rel μ (rf ν a) := by
  unfold Rel at h ⊢
  rw [rf_o (i := 1) (by omega), rf_o (i := 2) (by omega), rf_o (i := 3) (by omega), rf_o (i := 4) (by omega), rf_o (i := 5) (by omega), rf_o (i := 6) (by omega), rf_o (i := 7) (by omega), rf_n (j := 5) (by omega), rf_n (j := 9) (by omega)]
  exact h
theorem X5_refused0 (ν : Mem) : f_X5_refused ν 0 = some (0, rf ν 0) := rfl
theorem X5_refusedN (ν : Mem) {a : Int32} (h : ¬ a = 0) : f_X5_refused ν a = some (1, rf ν a) := by
  unfold f_X5_refused
  rw [if_neg h]
  rfl
/-! in -/
theorem X5_in (a b c : Int64) : f_X5_in a b c = some (b2i (decide (b ≤ a ∧ a ≤ c))) := by
  unfold f_X5_in
  by_cases h1 : a < b
  · rw [if_pos ((lg_cmp_lt a b).mpr h1), decide_eq_false (fun h => absurd h.1 (Int64.not_le.mpr h1))]
    rfl
  · rw [if_neg (fun h => h1 ((lg_cmp_lt a b).mp h))]
    by_cases h2 : c < a
    · rw [if_pos ((lg_cmp_gt a c).mpr h2), decide_eq_false (fun h => absurd h.2 (Int64.not_le.mpr h2))]
      rfl
    · rw [if_neg (fun h => h2 ((lg_cmp_gt a c).mp h)), decide_eq_true ⟨Int64.not_lt.mp h1, Int64.not_lt.mp h2⟩]
      rfl
theorem i64_le (a b : Int32) : a.toInt64 ≤ b.toInt64 ↔ a ≤ b := by
  rw [Int64.le_iff_toInt_le, Int32.le_iff_toInt_le, Int32.toInt_toInt64, Int32.toInt_toInt64]
theorem in32 (x y z : Int32) {Y Z : Int64} (hY : Y = y.toInt64) (hZ : Z = z.toInt64) : f_X5_in x.toInt64 Y Z = some (b2i (decide (y ≤ x ∧ x ≤ z))) := by
  rw [X5_in, hY, hZ]
  congr 2
  exact decide_eq_decide.mpr (by rw [i64_le, i64_le])
theorem b01 (b : Bool) : b2i b = 0 ∨ b2i b = 1 := b2i_01 b
theorem in_no {x : Int32} {m : Nat} (hm : m < 1000) (h : x < 0 ∨ nI m ≤ x) : ¬ ((0 : Int32) ≤ x ∧ x ≤ nI m - 1) := by
  intro ⟨h1, h2⟩
  rcases h with h | h
  · exact absurd h1 (Int32.not_le.mpr h)
  · have e : (nI m - 1 : Int32).toInt = (m : Int) - 1 := by
      rw [Int32.toInt_sub, nI_toInt (by omega)]
      have : (1 : Int32).toInt = 1 := rfl
      rw [this, Int.bmod_eq_of_le (by omega) (by omega)]
    rw [Int32.le_iff_toInt_le] at h h2
    rw [nI_toInt (by omega)] at h
    rw [e] at h2
    omega
theorem in_yes {j m : Nat} (hj : j < m) (hm : m < 1000) : (0 : Int32) ≤ nI j ∧ nI j ≤ nI m - 1 := by
  obtain ⟨m', rfl⟩ : ∃ m', m = m' + 1 := ⟨m - 1, by omega⟩
  have e : nI (m' + 1) - 1 = nI m' := nI_m1 m'
  rw [e]
  exact ⟨nI_pos' (by omega), (le_nI (by omega) (by omega)).mpr (by omega)⟩
theorem in_cases (x : Int32) (m : Nat) (hm : m < 1000) : (∃ j, j < m ∧ x = nI j) ∨ (x < 0 ∨ nI m ≤ x) := nI_or x m (by omega)
theorem z64 : (0 : Int64) = (0 : Int32).toInt64 := by decide
theorem inM_yes {j m : Nat} (hj : j < m) (hm : m < 1000) : f_X5_in (nI j).toInt64 0 ((nI m - 1).toInt64) = some 1 := by
  rw [in32 _ 0 (nI m - 1) z64 rfl, decide_eq_true (in_yes hj hm)]
  rfl
theorem inM_no {x : Int32} {m : Nat} (hm : m < 1000) (h : x < 0 ∨ nI m ≤ x) : f_X5_in x.toInt64 0 ((nI m - 1).toInt64) = some 0 := by
  rw [in32 _ 0 (nI m - 1) z64 rfl, decide_eq_false (in_no hm h)]
  rfl
theorem X5_isSite_y {r : Row} {j m : Nat} (h : r 196 = nI m) (hm : m ≤ 4) (hj : j < m) : f_X5_isSite r (nI j) = some 1 := by
  unfold f_X5_isSite
  rw [show (196 : Int32).toNatClampNeg = 196 from rfl, h, inM_yes hj (by omega)]
  rfl
theorem X5_isSite_n {r : Row} {x : Int32} {m : Nat} (h : r 196 = nI m) (hm : m ≤ 4) (hx : x < 0 ∨ nI m ≤ x) : f_X5_isSite r x = some 0 := by
  unfold f_X5_isSite
  rw [show (196 : Int32).toNatClampNeg = 196 from rfl, h, inM_no (by omega) hx]
  rfl
theorem X5_isTube_y {r : Row} {j m : Nat} (h : r 197 = nI m) (hm : m ≤ 8) (hj : j < m) : f_X5_isTube r (nI j) = some 1 := by
  unfold f_X5_isTube
  rw [show (197 : Int32).toNatClampNeg = 197 from rfl, h, inM_yes hj (by omega)]
  rfl
theorem X5_isTube_n {r : Row} {x : Int32} {m : Nat} (h : r 197 = nI m) (hm : m ≤ 8) (hx : x < 0 ∨ nI m ≤ x) : f_X5_isTube r x = some 0 := by
  unfold f_X5_isTube
  rw [show (197 : Int32).toNatClampNeg = 197 from rfl, h, inM_no (by omega) hx]
  rfl
theorem X5_isPipe_y {r : Row} {j m : Nat} (h : r 198 = nI m) (hm : m ≤ 8) (hj : j < m) : f_X5_isPipe r (nI j) = some 1 := by
  unfold f_X5_isPipe
  rw [show (198 : Int32).toNatClampNeg = 198 from rfl, h, inM_yes hj (by omega)]
  rfl
theorem X5_isPipe_n {r : Row} {x : Int32} {m : Nat} (h : r 198 = nI m) (hm : m ≤ 8) (hx : x < 0 ∨ nI m ≤ x) : f_X5_isPipe r x = some 0 := by
  unfold f_X5_isPipe
  rw [show (198 : Int32).toNatClampNeg = 198 from rfl, h, inM_no (by omega) hx]
  rfl
theorem X5_isCell_y {j : Nat} (hj : j < 30) : f_X5_isCell (nI j) = some 1 := by
  unfold f_X5_isCell
  rw [show (29 : Int64) = (nI 30 - 1).toInt64 by decide, inM_yes hj (by omega)]
  rfl
theorem X5_isCell_n {x : Int32} (hx : x < 0 ∨ nI 30 ≤ x) : f_X5_isCell x = some 0 := by
  unfold f_X5_isCell
  rw [show (29 : Int64) = (nI 30 - 1).toInt64 by decide, inM_no (by omega) hx]
  rfl
theorem X0_hasSite_y {r : Row} {j m : Nat} (h : r 196 = nI m) (hm : m ≤ 4) (hj : j < m) : f_X0_hasSite (enc r) (nI j) = some 1 := by
  unfold f_X0_hasSite
  rw [if_neg (nI_pos (by omega)), enc_hi (by omega), h, if_neg (fun x => by rw [le_nI (by omega) (by omega)] at x; omega)]
theorem X0_hasSite_n {r : Row} {x : Int32} {m : Nat} (h : r 196 = nI m) (hx : x < 0 ∨ nI m ≤ x) : f_X0_hasSite (enc r) x = some 0 := by
  unfold f_X0_hasSite
  by_cases h1 : x < 0
  · rw [if_pos h1]
  · rw [if_neg h1, enc_hi (by omega), h, if_pos (hx.resolve_left h1)]
theorem X0_hasPipe_y {r : Row} {j m : Nat} (h : r 198 = nI m) (hm : m ≤ 8) (hj : j < m) : f_X0_hasPipe (enc r) (nI j) = some 1 := by
  unfold f_X0_hasPipe
  rw [if_neg (nI_pos (by omega)), enc_hi (by omega), h, if_neg (fun x => by rw [le_nI (by omega) (by omega)] at x; omega)]
theorem X0_hasPipe_n {r : Row} {x : Int32} {m : Nat} (h : r 198 = nI m) (hx : x < 0 ∨ nI m ≤ x) : f_X0_hasPipe (enc r) x = some 0 := by
  unfold f_X0_hasPipe
  by_cases h1 : x < 0
  · rw [if_pos h1]
  · rw [if_neg h1, enc_hi (by omega), h, if_pos (hx.resolve_left h1)]
theorem X4_needRange_y {x y z : Int32} (h : y ≤ x ∧ x ≤ z) : f_X4_needRange x y z = some 0 := by
  unfold f_X4_needRange
  rw [if_neg (Int32.not_lt.mpr h.1), if_pos h.2]
theorem X4_needRange_n {x y z : Int32} (h : ¬ (y ≤ x ∧ x ≤ z)) : f_X4_needRange x y z = some 1 := by
  unfold f_X4_needRange
  by_cases h1 : x < y
  · rw [if_pos h1]
  · rw [if_neg h1, if_neg (fun h2 => h ⟨Int32.not_lt.mp h1, h2⟩)]
theorem X5_in_y {x y z : Int32} {Y Z : Int64} (h : y ≤ x ∧ x ≤ z) (hY : Y = y.toInt64) (hZ : Z = z.toInt64) : f_X5_in x.toInt64 Y Z = some 1 := by
  rw [in32 x y z hY hZ, decide_eq_true h]
  rfl
theorem X5_in_n {x y z : Int32} {Y Z : Int64} (h : ¬ (y ≤ x ∧ x ≤ z)) (hY : Y = y.toInt64) (hZ : Z = z.toInt64) : f_X5_in x.toInt64 Y Z = some 0 := by
  rw [in32 x y z hY hZ, decide_eq_false h]
  rfl
theorem rng_nI {x : Int32} {n : Nat} (hn : n < 2147483647) (h : (0 : Int32) ≤ x ∧ x ≤ nI n) : ∃ j, j ≤ n ∧ x = nI j := by
  rcases nI_or x (n + 1) (by omega) with ⟨j, h1, h2⟩ | h1 | h1
  · exact ⟨j, by omega, h2⟩
  · exact absurd h.1 (Int32.not_le.mpr h1)
  · have := Int32.le_trans h1 h.2
    rw [le_nI (by omega) (by omega)] at this
    omega
/-! copies -/
theorem cpy_at (K z : Nat) (o g : Row) (k : Nat) : cpy K z o g k = if ow k = (K, z) then o k else g k := rfl
def csz (o : Row) (z : Nat) (g : Row) : Row := cpy 21 z o (upd (upd (upd (upd (upd g (35 * z + 0) (o (35 * z + 0))) (35 * z + 1) (o (35 * z + 1))) (35 * z + 2) (o (35 * z + 2))) (35 * z + 3) (o (35 * z + 3))) (35 * z + 4) (o (35 * z + 4)))
theorem csz_at {o g : Row} {z k : Nat} (hz : z < 4) : csz o z g k = if 35 * z ≤ k ∧ k < 35 * z + 35 then o k else g k := by
  unfold csz
  rw [cpy_at]
  by_cases h : 35 * z ≤ k ∧ k < 35 * z + 35
  · rw [if_pos h]
    by_cases h5 : k % 35 < 5
    · have e : ow k ≠ (21, z) := by
        unfold ow
        rw [if_pos (by omega), if_pos h5]
        intro x
        injection x with x1 x2
        omega
      rw [if_neg e]
      obtain ⟨j, hj, rfl⟩ : ∃ j, j < 5 ∧ k = 35 * z + j := ⟨k - 35 * z, by omega, by omega⟩
      by_cases e4 : j = 4
      · subst e4; rw [pk_us]
      · rw [pk_un (by omega)]
        by_cases e3 : j = 3
        · subst e3; rw [pk_us]
        · rw [pk_un (by omega)]
          by_cases e2 : j = 2
          · subst e2; rw [pk_us]
          · rw [pk_un (by omega)]
            by_cases e1 : j = 1
            · subst e1; rw [pk_us]
            · rw [pk_un (by omega)]
              have e0 : j = 0 := by omega
              subst e0
              rw [pk_us]
    · have e : ow k = (21, z) := by
        unfold ow
        rw [if_pos (by omega), if_neg h5, show k / 35 = z by omega]
      rw [if_pos e]
  · rw [if_neg h]
    have e : ow k ≠ (21, z) := by
      unfold ow
      by_cases h1 : k < 140
      · rw [if_pos h1]
        by_cases h5 : k % 35 < 5
        · rw [if_pos h5]
          intro x
          injection x with x1 x2
          omega
        · rw [if_neg h5]
          intro x
          injection x with x1 x2
          omega
      · rw [if_neg h1]
        intro x
        by_cases h2 : k < 156
        · rw [if_pos h2] at x
          injection x with x1 x2
          omega
        · rw [if_neg h2] at x
          by_cases h3 : k < 196
          · rw [if_pos h3] at x
            injection x with x1 x2
            omega
          · rw [if_neg h3] at x
            by_cases h4 : k < 202
            · rw [if_pos h4] at x
              injection x with x1 x2
              omega
            · rw [if_neg h4] at x
              injection x with x1 x2
              omega
    rw [if_neg e, pk_un (by omega), pk_un (by omega), pk_un (by omega), pk_un (by omega), pk_un (by omega)]
theorem X0_copyFrom (g o : Row) : f_X0_copyFrom g o = some o := by
  have st0 : ∀ n z (h : Row), z < 4 → fl_X0_copyFrom o (n + 1) h (nI z) = fl_X0_copyFrom o n (csz o z h) (nI (z + 1)) := fun n z h hz => by
    have hz4 : ¬ 4 ≤ z := by omega
    show fb_X0_copyFrom_1 o (fl_X0_copyFrom o n) h (nI z) = _
    unfold fb_X0_copyFrom_1 f_X2_copyFrom
    simp (maxSteps := 2000000) (disch := omega) only [↓Lm1, L0, L1, L2, L3, L4, L5, L6, L7, L8, L9, L10, L11, L12, L14, L15, L16, L20, L21, L29, L30, L31, L32, L35, L45, L48, L50, L60, L68, L97, L99, L100, L101, L102, L112, L115, L116, L119, L120, L128, L140, L156, L196, L197, L198, L199, L200, L201, L202, L203, L204, L205, L255, L400, L410, L1000, L2665, L2870, L9999, L10000, L100000, L1000000, le_nI, lt_nI, eq_nI, oob_nI, cl_nI, sub_nI, add_nI, mul_nI, b2i_t2, b2i_f2, n10, n01, em1, em2, lm1, lm2, lm3, lm4, if_true, if_false, Option.bind_some, Nat.add_zero, Bool.false_eq_true, not_true, not_false_eq_true, hz4]
    rfl
  have hfu : FU = 999999995 + 1 + 1 + 1 + 1 + 1 := rfl
  unfold f_X0_copyFrom
  rw [hfu, show (0 : Int32) = nI 0 from rfl, st0 _ 0 _ (by omega), st0 _ (0 + 1) _ (by omega), st0 _ (0 + 1 + 1) _ (by omega), st0 _ (0 + 1 + 1 + 1) _ (by omega)]
  show fb_X0_copyFrom_1 o (fl_X0_copyFrom o _) _ (nI 4) = _
  unfold fb_X0_copyFrom_1
  rw [if_pos (by decide)]
  refine congrArg some (funext fun k => ?_)
  rw [cpy_at, cpy_at, cpy_at, cpy_at, cpy_at, cpy_at, cpy_at, csz_at (by omega), csz_at (by omega), csz_at (by omega), csz_at (by omega), cpy_at]
  by_cases h1 : k < 140
  · by_cases h3 : 35 * 3 ≤ k
    · rw [if_pos (by omega : 35 * (0 + 1 + 1 + 1) ≤ k ∧ k < 35 * (0 + 1 + 1 + 1) + 35)]
      repeat' split
      all_goals rfl
    · rw [if_neg (by omega : ¬ (35 * (0 + 1 + 1 + 1) ≤ k ∧ k < 35 * (0 + 1 + 1 + 1) + 35))]
      by_cases h2 : 35 * 2 ≤ k
      · rw [if_pos (by omega : 35 * (0 + 1 + 1) ≤ k ∧ k < 35 * (0 + 1 + 1) + 35)]
        repeat' split
        all_goals rfl
      · rw [if_neg (by omega : ¬ (35 * (0 + 1 + 1) ≤ k ∧ k < 35 * (0 + 1 + 1) + 35))]
        by_cases h4 : 35 ≤ k
        · rw [if_pos (by omega : 35 * (0 + 1) ≤ k ∧ k < 35 * (0 + 1) + 35)]
          repeat' split
          all_goals rfl
        · rw [if_neg (by omega : ¬ (35 * (0 + 1) ≤ k ∧ k < 35 * (0 + 1) + 35)), if_pos (by omega : 35 * 0 ≤ k ∧ k < 35 * 0 + 35)]
          repeat' split
          all_goals rfl
  · rw [if_neg (by omega : ¬ (35 * (0 + 1 + 1 + 1) ≤ k ∧ k < 35 * (0 + 1 + 1 + 1) + 35)), if_neg (by omega : ¬ (35 * (0 + 1 + 1) ≤ k ∧ k < 35 * (0 + 1 + 1) + 35)), if_neg (by omega : ¬ (35 * (0 + 1) ≤ k ∧ k < 35 * (0 + 1) + 35)), if_neg (by omega : ¬ (35 * 0 ≤ k ∧ k < 35 * 0 + 35))]
    unfold ow
    rw [if_neg h1]
    by_cases h2 : k < 156
    · rw [if_pos h2]
      rcases Nat.mod_two_eq_zero_or_one k with e | e
      · rw [e]; simp
      · rw [e]; simp
    · rw [if_neg h2]
      by_cases h3 : k < 196
      · rw [if_pos h3]
        have : (k - 156) % 5 = 0 ∨ (k - 156) % 5 = 1 ∨ (k - 156) % 5 = 2 ∨ (k - 156) % 5 = 3 ∨ (k - 156) % 5 = 4 := by omega
        rcases this with e | e | e | e | e <;> rw [e] <;> simp
      · rw [if_neg h3]
        by_cases h4 : k < 202
        · rw [if_pos h4]
          have : k = 196 ∨ k = 197 ∨ k = 198 ∨ k = 199 ∨ k = 200 ∨ k = 201 := by omega
          rcases this with e | e | e | e | e | e <;> subst e <;> simp [upd]
        · rw [if_neg h4]
          simp
theorem lay_Z {o g : Row} (ho : Zr o) (hg : Zr g) : lay o 0 205 g = o := by
  funext j
  unfold lay
  by_cases h : 0 ≤ j ∧ j < 0 + 205
  · rw [if_pos h]
  · rw [if_neg h, hg j (by omega), ho j (by omega)]
theorem X5_copy {o g : Row} (ho : Zr o) (hg : Zr g) : f_X5_copy g o = some o := by
  have h := loop_itr (fun n (s : Row) k => fl_X5_copy o n s (nI k)) (fun k s => upd s k (o k)) (fun s => some s) 205 (fun n s => by
      show fb_X5_copy_1 o (fl_X5_copy o n) s (nI 205) = _
      unfold fb_X5_copy_1
      rw [if_pos (by decide)]) (fun n s k hk => by
      have h2 : ¬ 205 ≤ k := by omega
      show fb_X5_copy_1 o (fl_X5_copy o n) s (nI k) = _
      unfold fb_X5_copy_1
      simp (maxSteps := 2000000) (disch := omega) only [↓Lm1, L0, L1, L2, L3, L4, L5, L6, L7, L8, L9, L10, L11, L12, L14, L15, L16, L20, L21, L29, L30, L31, L32, L35, L45, L48, L50, L60, L68, L97, L99, L100, L101, L102, L112, L115, L116, L119, L120, L128, L140, L156, L196, L197, L198, L199, L200, L201, L202, L203, L204, L205, L255, L400, L410, L1000, L2665, L2870, L9999, L10000, L100000, L1000000, le_nI, lt_nI, eq_nI, oob_nI, cl_nI, sub_nI, add_nI, mul_nI, b2i_t2, b2i_f2, n10, n01, em1, em2, lm1, lm2, lm3, lm4, if_true, if_false, Option.bind_some, Nat.add_zero, Bool.false_eq_true, not_true, not_false_eq_true, h2]) 205 FU 0 g (fu_lt (by omega)) (by omega)
  rw [itr_lay, lay_Z ho hg] at h
  exact h
theorem frow_Z : Zr frow := fun k hk => by
  unfold frow
  rw [if_neg (by omega), if_neg (by omega), if_neg (by omega)]
theorem X5_fresh {g : Row} (hg : Zr g) : f_X5_fresh g = some frow := by
  have h := loop_itr (fun n (s : Row) k => fl_X5_fresh n s (nI k)) (fun k s => upd s k 0) (fun s => some (upd (upd (upd s 202 5) 203 2) 204 10)) 205 (fun n s => by
      show fb_X5_fresh_1 (fl_X5_fresh n) s (nI 205) = _
      unfold fb_X5_fresh_1
      rw [if_pos (by decide)]
      rfl) (fun n s k hk => by
      have h2 : ¬ 205 ≤ k := by omega
      show fb_X5_fresh_1 (fl_X5_fresh n) s (nI k) = _
      unfold fb_X5_fresh_1
      simp (maxSteps := 2000000) (disch := omega) only [↓Lm1, L0, L1, L2, L3, L4, L5, L6, L7, L8, L9, L10, L11, L12, L14, L15, L16, L20, L21, L29, L30, L31, L32, L35, L45, L48, L50, L60, L68, L97, L99, L100, L101, L102, L112, L115, L116, L119, L120, L128, L140, L156, L196, L197, L198, L199, L200, L201, L202, L203, L204, L205, L255, L400, L410, L1000, L2665, L2870, L9999, L10000, L100000, L1000000, le_nI, lt_nI, eq_nI, oob_nI, cl_nI, sub_nI, add_nI, mul_nI, b2i_t2, b2i_f2, n10, n01, em1, em2, lm1, lm2, lm3, lm4, if_true, if_false, Option.bind_some, Nat.add_zero, Bool.false_eq_true, not_true, not_false_eq_true, h2]) 205 FU 0 g (fu_lt (by omega)) (by omega)
  have e := itr_lay (fun _ => (0 : Int32)) 205 0 g
  rw [e, lay_Z (fun _ _ => rfl) hg] at h
  rw [show f_X5_fresh g = fl_X5_fresh FU g (nI 0) from rfl, h]
  refine congrArg some (funext fun k => ?_)
  unfold frow upd
  by_cases h4 : k = 204
  · subst h4; rfl
  · rw [if_neg h4]
    by_cases h3 : k = 203
    · subst h3; rfl
    · rw [if_neg h3]
      by_cases h2 : k = 202
      · subst h2; rfl
      · rw [if_neg h2, if_neg h2, if_neg h3, if_neg h4]
theorem frow_gd : gd 9999 0 frow := by
  refine ⟨⟨fun k b hb => ?_, fun k hk => ?_, frow_Z, fun p hp h8 => absurd h8 (nI_pos (by omega))⟩, rfl, by omega, by omega⟩
  · by_cases h2 : k = 202
    · subst h2
      have hb' : some (0, 30) = some b := hb
      cases hb'
      exact ⟨5, rfl, by decide, by decide⟩
    · by_cases h3 : k = 203
      · subst h3
        have hb' : some (1, 9) = some b := hb
        cases hb'
        exact ⟨2, rfl, by decide, by decide⟩
      · by_cases h4 : k = 204
        · subst h4
          have hb' : some (0, 50) = some b := hb
          cases hb'
          exact ⟨10, rfl, by decide, by decide⟩
        · refine ⟨0, by unfold frow; rw [if_neg h2, if_neg h3, if_neg h4]; rfl, ?_, Nat.zero_le _⟩
          have h0 : ∀ (D k : Nat) b, k ≠ 203 → bq D k = some b → b.1 = 0 := fun D k b hk hb => by
            unfold bq at hb
            rw [if_neg hk] at hb
            repeat' split at hb
            all_goals first
              | (cases hb; rfl)
              | (cases hb)
          rw [h0 _ _ _ h3 hb]
          exact Nat.le_refl _
  · have h140 : k < 140 := by
      by_cases h : k < 140
      · exact h
      · rw [isC_hi (by omega)] at hk
        cases hk
    have e1 : frow k = 0 := by
      unfold frow
      rw [if_neg (by omega), if_neg (by omega), if_neg (by omega)]
    rw [e1]
    decide
