/-! what the constructors made is the world at its beginning, and the two sides' beginnings belong together -/
def ve (a b : va_E) : Prop := ∀ (D : va_G) (cl : List vw_C) (q : Nat) (H : Heap), va_at D cl (q, a) H → va_at D cl (q, b) H
theorem ve_rf (a : va_E) : ve a a := fun _ _ _ _ h => h
theorem ve_eq {a b : va_E} (h : a = b) : ve a b := h ▸ ve_rf a
theorem arrV_congr (c : ClassId) {n : Nat} {f g : Nat → Value} (h : ∀ j, j < n → f j = g j) : arrV c n f = arrV c n g := by
  unfold arrV
  congr 2
  funext j
  exact h j.val j.isLt
theorem ve_i {c : ClassId} {n : Nat} {f g : Nat → Int32} (h : ∀ j, j < n → f j = g j) : ve (.inl (c, (n, .inl f))) (.inl (c, (n, .inl g))) := fun D cl q H hq => by
  show H[q]? = some (vp_cell c (n, .inl g))
  have hq' : H[q]? = some (vp_cell c (n, .inl f)) := hq
  rw [hq', vp_cell_i, vp_cell_i, arrV_congr c (fun j hj => by rw [h j hj])]
theorem ve_q {c : ClassId} {n : Nat} {f g : Nat → Option Nat} (h : ∀ j, j < n → f j = g j) : ve (.inl (c, (n, .inr (.inr (.inr (.inr f)))))) (.inl (c, (n, .inr (.inr (.inr (.inr g)))))) := fun D cl q H hq => by
  show H[q]? = some (vp_cell c (n, .inr (.inr (.inr (.inr g)))))
  have hq' : H[q]? = some (vp_cell c (n, .inr (.inr (.inr (.inr f))))) := hq
  rw [hq', vp_cell_q, vp_cell_q, arrV_congr c (fun j hj => by rw [h j hj])]
def mu0 : Mem := fun r => if r < 19 then enc frow else fun _ => 0
/-- the list es is the world's cells from o on -/
def LPx (D : va_G) (x o : Nat) (es : List va_E) : Prop := ∀ j e, es[j]? = some e → ve e (cellX D x mu0 (o + j))
theorem LPx.app {D : va_G} {x o : Nat} {a b : List va_E} (ha : LPx D x o a) {n : Nat} (hn : a.length = n) (hb : LPx D x (o + n) b) : LPx D x o (a ++ b) := by
  intro j e h
  by_cases hj : j < a.length
  · rw [List.getElem?_append_left hj] at h
    exact ha j e h
  · rw [List.getElem?_append_right (by omega)] at h
    have := hb _ e h
    rw [show o + n + (j - a.length) = o + j by omega] at this
    exact this
theorem LPx.one {D : va_G} {x o : Nat} {e : va_E} (h : ve e (cellX D x mu0 o)) : LPx D x o [e] := by
  intro j e' hj
  cases j with
  | zero =>
    rw [List.getElem?_cons_zero] at hj
    cases hj
    exact h
  | succ j => simp at hj
def LQ (D : va_G) (x o : Nat) (es : List va_E) (n : Nat) : Prop := LPx D x o es ∧ es.length = n
theorem LQ.app {D : va_G} {x o : Nat} {a b : List va_E} {n m : Nat} (ha : LQ D x o a n) (hb : LQ D x (o + n) b m) : LQ D x o (a ++ b) (n + m) := ⟨LPx.app ha.1 ha.2 hb.1, by rw [List.length_append, ha.2, hb.2]⟩
theorem LQ.one {D : va_G} {x o : Nat} {e : va_E} (h : ve e (cellX D x mu0 o)) : LQ D x o [e] 1 := ⟨LPx.one h, rfl⟩
theorem cX_of {D : va_G} {x o : Nat} {q : Nat × Nat × Nat} (hk : kd o = q) : cellX D x mu0 o = mk D x q (vals mu0 q) := by rw [cellX, hk]
theorem enc0_hi {k : Nat} (hk : 140 ≤ k) (h2 : k < 202 ∨ 205 ≤ k) : enc frow k = 0 := by
  rw [enc_hi hk]
  unfold frow
  rw [if_neg (by omega), if_neg (by omega), if_neg (by omega)]
theorem enc0_lo {z j : Nat} (hz : z < 4) (hj : j < 5) : enc frow (35 * z + j) = 0 := by
  rw [enc_lo hj]
  unfold frow
  rw [if_neg (by omega), if_neg (by omega), if_neg (by omega)]
theorem enc0_c {z c : Nat} (hz : z < 4) (hc : c < 30) : enc frow (35 * z + (5 + c)) = -1 := by
  rw [enc_c (isC_c hz hc)]
  have : frow (35 * z + (5 + c)) = 0 := by
    unfold frow
    rw [if_neg (by omega), if_neg (by omega), if_neg (by omega)]
  rw [this, if_neg (by decide)]
theorem mu0_g {i : Nat} (hi : i < 19) : mu0 i = enc frow := by unfold mu0; rw [if_pos hi]
theorem lp_X2 {D : va_G} {x i s : Nat} (hi : i < 19) (hs : s < 4) : LPx D x (sb i s) (esX2 D (x + sb i s)) := by
  refine LPx.app (n := 1) (LPx.one ?_) rfl (LPx.one ?_)
  · rw [cX_of (kd_S i hi s hs)]
    refine ve_eq ?_
    have hv : ∀ j, j < 5 → vals mu0 (20, i, s) j = 0 := fun j hj => by
      have h5 : j < ln (20, i, s) := hj
      unfold vals
      rw [if_pos h5]
      show mu0 i (35 * s + j) = 0
      rw [mu0_g hi, enc0_lo hs hj]
    show (.inr (2, [.int 0, .int 0, .int 0, .int 0, .int 0, .ref (x + sb i s + 1)]) : va_E) = .inr (2, [.int (vals mu0 (20, i, s) 0), .int (vals mu0 (20, i, s) 1), .int (vals mu0 (20, i, s) 2), .int (vals mu0 (20, i, s) 3), .int (vals mu0 (20, i, s) 4), .ref (x + (sb i s + 1))])
    rw [hv 0 (by omega), hv 1 (by omega), hv 2 (by omega), hv 3 (by omega), hv 4 (by omega), Nat.add_assoc]
  · rw [cX_of (kd_A i hi s hs)]
    refine ve_i fun j hj => ?_
    have h5 : j < ln (21, i, s) := hj
    unfold vals
    rw [if_pos h5]
    show (-1 : Int32) = mu0 i (35 * s + (5 + j))
    rw [mu0_g hi, enc0_c hs hj]
theorem lp_8 {D : va_G} {x i c : Nat} (hi : i < 19) (h3 : 3 ≤ c) (hc : c < 10) : LPx D x (gb i + c) [.inl (D.1 6, (8, .inl (fun _ => 0)))] := by
  refine LPx.one ?_
  rw [cX_of (kd_G i hi c hc)]
  have hcs : c = 3 ∨ c = 4 ∨ c = 5 ∨ c = 6 ∨ c = 7 ∨ c = 8 ∨ c = 9 := by omega
  rcases hcs with e | e | e | e | e | e | e <;> subst e
  · refine ve_i fun j hj => ?_
    have h5 : j < ln (13, i, 0) := hj
    show (0 : Int32) = vals mu0 (13, i, 0) j
    unfold vals
    rw [if_pos h5]
    show (0 : Int32) = mu0 i (140 + 2 * j)
    rw [mu0_g hi, enc0_hi (by omega) (by omega)]
  · refine ve_i fun j hj => ?_
    have h5 : j < ln (14, i, 0) := hj
    show (0 : Int32) = vals mu0 (14, i, 0) j
    unfold vals
    rw [if_pos h5]
    show (0 : Int32) = mu0 i (141 + 2 * j)
    rw [mu0_g hi, enc0_hi (by omega) (by omega)]
  · refine ve_i fun j hj => ?_
    have h5 : j < ln (15, i, 0) := hj
    show (0 : Int32) = vals mu0 (15, i, 0) j
    unfold vals
    rw [if_pos h5]
    show (0 : Int32) = mu0 i (156 + 5 * j)
    rw [mu0_g hi, enc0_hi (by omega) (by omega)]
  · refine ve_i fun j hj => ?_
    have h5 : j < ln (16, i, 0) := hj
    show (0 : Int32) = vals mu0 (16, i, 0) j
    unfold vals
    rw [if_pos h5]
    show (0 : Int32) = mu0 i (157 + 5 * j)
    rw [mu0_g hi, enc0_hi (by omega) (by omega)]
  · refine ve_i fun j hj => ?_
    have h5 : j < ln (17, i, 0) := hj
    show (0 : Int32) = vals mu0 (17, i, 0) j
    unfold vals
    rw [if_pos h5]
    show (0 : Int32) = mu0 i (158 + 5 * j)
    rw [mu0_g hi, enc0_hi (by omega) (by omega)]
  · refine ve_i fun j hj => ?_
    have h5 : j < ln (18, i, 0) := hj
    show (0 : Int32) = vals mu0 (18, i, 0) j
    unfold vals
    rw [if_pos h5]
    show (0 : Int32) = mu0 i (159 + 5 * j)
    rw [mu0_g hi, enc0_hi (by omega) (by omega)]
  · refine ve_i fun j hj => ?_
    have h5 : j < ln (19, i, 0) := hj
    show (0 : Int32) = vals mu0 (19, i, 0) j
    unfold vals
    rw [if_pos h5]
    show (0 : Int32) = mu0 i (160 + 5 * j)
    rw [mu0_g hi, enc0_hi (by omega) (by omega)]
theorem sb_eq (i s : Nat) : sb i s = gb i + (10 + 2 * s) := rfl
theorem lp_X0 {D : va_G} {x i : Nat} (hi : i < 19) : LPx D x (gb i) (esX0 D (x + gb i)) := by
  have s2 : ∀ s, s < 4 → LPx D x (gb i + (10 + 2 * s)) (esX2 D (x + gb i + (10 + 2 * s))) := fun s hs => by
    have := lp_X2 (D := D) (x := x) hi hs
    rw [sb_eq] at this
    rw [Nat.add_assoc x (gb i)]
    exact this
  have s8 : ∀ c, 3 ≤ c → c < 10 → LPx D x (gb i + c) [.inl (D.1 6, (8, .inl (fun _ => 0)))] := fun c h3 hc => lp_8 hi h3 hc
  refine LPx.app (n := 16) (LPx.app (n := 14) (LPx.app (n := 12) (LPx.app (n := 10) (LPx.app (n := 9) (LPx.app (n := 8) (LPx.app (n := 7) (LPx.app (n := 6) (LPx.app (n := 5) (LPx.app (n := 4) (LPx.app (n := 3) (LPx.app (n := 2) (LPx.app (n := 1) (LPx.one ?_) rfl (LPx.one ?_)) rfl (LPx.one ?_)) rfl (s8 3 (by omega) (by omega))) rfl (s8 4 (by omega) (by omega))) rfl (s8 5 (by omega) (by omega))) rfl (s8 6 (by omega) (by omega))) rfl (s8 7 (by omega) (by omega))) rfl (s8 8 (by omega) (by omega))) rfl (s8 9 (by omega) (by omega))) rfl (s2 0 (by omega))) rfl (s2 1 (by omega))) rfl (s2 2 (by omega))) rfl (s2 3 (by omega))
  · have hk := kd_G i hi 0 (by omega)
    rw [Nat.add_zero] at hk
    rw [cX_of hk]
    refine ve_eq ?_
    have hv : ∀ j, j < 6 → vals mu0 (10, i, 0) j = 0 := fun j hj => by
      have h5 : j < ln (10, i, 0) := hj
      unfold vals
      rw [if_pos h5]
      show mu0 i (196 + j) = 0
      rw [mu0_g hi, enc0_hi (by omega) (by omega)]
    show (.inr (0, [.int 0, .int 0, .int 0, .int 0, .int 0, .int 0, .ref (x + gb i + 1), .ref (x + gb i + 2), .ref (x + gb i + 3), .ref (x + gb i + 4), .ref (x + gb i + 5), .ref (x + gb i + 6), .ref (x + gb i + 7), .ref (x + gb i + 8), .ref (x + gb i + 9)]) : va_E) = .inr (0, [.int (vals mu0 (10, i, 0) 0), .int (vals mu0 (10, i, 0) 1), .int (vals mu0 (10, i, 0) 2), .int (vals mu0 (10, i, 0) 3), .int (vals mu0 (10, i, 0) 4), .int (vals mu0 (10, i, 0) 5), .ref (x + (gb i + 1)), .ref (x + (gb i + 2)), .ref (x + (gb i + 3)), .ref (x + (gb i + 4)), .ref (x + (gb i + 5)), .ref (x + (gb i + 6)), .ref (x + (gb i + 7)), .ref (x + (gb i + 8)), .ref (x + (gb i + 9))])
    rw [hv 0 (by omega), hv 1 (by omega), hv 2 (by omega), hv 3 (by omega), hv 4 (by omega), hv 5 (by omega)]
    simp only [Nat.add_assoc]
  · rw [cX_of (kd_G i hi 1 (by omega))]
    refine ve_i fun j hj => ?_
    have h5 : j < ln (11, i, 0) := hj
    unfold vals
    rw [if_pos h5]
    show upd (upd (upd (fun _ => 0) 0 (5 : Int32)) 1 (2 : Int32)) 2 (10 : Int32) j = mu0 i (202 + j)
    rw [mu0_g hi]
    have : j = 0 ∨ j = 1 ∨ j = 2 := by omega
    rcases this with e | e | e <;> subst e <;> rfl
  · rw [cX_of (kd_G i hi 2 (by omega))]
    refine ve_q fun j hj => ?_
    show va_up (va_up (va_up (va_up (fun _ => none) 0 (some (x + gb i + 10))) 1 (some (x + gb i + 12))) 2 (some (x + gb i + 14))) 3 (some (x + gb i + 16)) j = some (x + (gb i + (10 + 2 * j)))
    have : j = 0 ∨ j = 1 ∨ j = 2 ∨ j = 3 := by omega
    rcases this with e | e | e | e <;> subst e
    · show some (x + gb i + 10) = some (x + (gb i + 10)); rw [Nat.add_assoc]
    · show some (x + gb i + 12) = some (x + (gb i + 12)); rw [Nat.add_assoc]
    · show some (x + gb i + 14) = some (x + (gb i + 14)); rw [Nat.add_assoc]
    · show some (x + gb i + 16) = some (x + (gb i + 16)); rw [Nat.add_assoc]
theorem lp_X3 {D : va_G} {x : Nat} : LQ D x 1 (esX3 D (x + 1)) 2 := by
  refine LQ.app (n := 1) (LQ.one ?_) (LQ.one ?_)
  · rw [cX_of (q := (1, 0, 0)) (by decide)]
    exact ve_eq rfl
  · rw [cX_of (q := (2, 0, 0)) (by decide)]
    refine ve_i fun j hj => ?_
    have h5 : j < ln (2, 0, 0) := hj
    unfold vals
    rw [if_pos h5]
    rfl
theorem lp_g {D : va_G} {x i o : Nat} (hi : i < 19) (ho : gb i = o) : LQ D x o (esX0 D (x + o)) 18 := by
  subst ho
  exact ⟨lp_X0 hi, rfl⟩
set_option maxHeartbeats 4000000 in
theorem lp_X1 {D : va_G} {x : Nat} : LQ D x 57 (esX1 D (x + 57)) 254 := by
  have g : ∀ i o, i < 19 → gb i = o → LQ D x o (esX0 D (x + o)) 18 := fun i o h1 h2 => lp_g h1 h2
  have e : ∀ a b : Nat, x + a + b = x + (a + b) := fun a b => Nat.add_assoc x a b
  unfold esX1
  simp only [e]
  refine LQ.app (n := 236) (LQ.app (n := 218) (LQ.app (n := 200) (LQ.app (n := 182) (LQ.app (n := 164) (LQ.app (n := 146) (LQ.app (n := 128) (LQ.app (n := 110) (LQ.app (n := 92) (LQ.app (n := 74) (LQ.app (n := 56) (LQ.app (n := 38) (LQ.app (n := 20) (LQ.app (n := 2) (LQ.app (n := 1) (LQ.one ?_) (LQ.one ?_)) (g 3 59 (by omega) rfl)) (g 4 77 (by omega) rfl)) (g 5 95 (by omega) rfl)) (g 6 113 (by omega) rfl)) (g 7 131 (by omega) rfl)) (g 8 149 (by omega) rfl)) (g 9 167 (by omega) rfl)) (g 10 185 (by omega) rfl)) (g 11 203 (by omega) rfl)) (g 12 221 (by omega) rfl)) (g 13 239 (by omega) rfl)) (g 14 257 (by omega) rfl)) (g 15 275 (by omega) rfl)) (g 16 293 (by omega) rfl)
  · rw [cX_of (q := (3, 0, 0)) (by decide)]
    exact ve_eq rfl
  · rw [cX_of (q := (4, 0, 0)) (by decide)]
    refine ve_q fun j hj => ?_
    have : j = 0 ∨ j = 1 ∨ j = 2 ∨ j = 3 ∨ j = 4 ∨ j = 5 ∨ j = 6 ∨ j = 7 ∨ j = 8 ∨ j = 9 ∨ j = 10 ∨ j = 11 ∨ j = 12 ∨ j = 13 := by omega
    rcases this with e | e | e | e | e | e | e | e | e | e | e | e | e | e <;> subst e <;> rfl
set_option maxHeartbeats 4000000 in
theorem lp_X4 {D : va_G} {x : Nat} : LQ D x 0 (esX4 D x) 349 := by
  have g : ∀ i o, i < 19 → gb i = o → LQ D x o (esX0 D (x + o)) 18 := fun i o h1 h2 => lp_g h1 h2
  refine LQ.app (n := 331) (LQ.app (n := 313) (LQ.app (n := 312) (LQ.app (n := 311) (LQ.app (n := 57) (LQ.app (n := 39) (LQ.app (n := 21) (LQ.app (n := 3) (LQ.app (n := 1) (LQ.one ?_) lp_X3) (g 0 3 (by omega) rfl)) (g 1 21 (by omega) rfl)) (g 2 39 (by omega) rfl)) lp_X1) (LQ.one ?_)) (LQ.one ?_)) (g 17 313 (by omega) rfl)) (g 18 331 (by omega) rfl)
  · rw [cX_of (q := (0, 0, 0)) (by decide)]
    exact ve_eq rfl
  · rw [cX_of (q := (5, 0, 0)) (by decide)]
    refine ve_q fun j hj => ?_
    have : j = 0 ∨ j = 1 := by omega
    rcases this with e | e <;> subst e <;> rfl
  · rw [cX_of (q := (6, 0, 0)) (by decide)]
    refine ve_i fun j hj => ?_
    have h5 : j < ln (6, 0, 0) := hj
    unfold vals
    rw [if_pos h5]
    rfl
theorem X4_len (D : va_G) (b : Nat) : (esX4 D b).length = 349 := (lp_X4 (D := D) (x := b)).2
theorem world0 {D : va_G} {x : Nat} {H : Heap} (hP : va_P D vwCl (sq x 0 (esX4 D x)) H) : va_P D vwCl (WL D x mu0) H := by
  intro k q hk
  have hk3 : k < 349 := by
    have := (List.getElem?_eq_some_iff.mp hk).1
    rwa [WL_len] at this
  rw [WL_at hk3 rfl] at hk
  cases hk
  have hlt : k < (esX4 D x).length := by rw [X4_len]; exact hk3
  have he : (esX4 D x)[k]? = some ((esX4 D x)[k]'hlt) := List.getElem?_eq_getElem hlt
  have h1 := sq_get x (esX4 D x) 0 k _ he
  have h2 := hP k _ h1
  have h3 := (lp_X4 (D := D) (x := x)).1 k _ he
  rw [Nat.zero_add] at h2 h3
  exact h3 _ _ _ _ h2
def nu0 : Mem := fun o => if o = 1 then frow else fun _ => 0
theorem rel0 : Rel mu0 nu0 := by
  refine ⟨⟨rfl, 0, frow_gd⟩, fun _ _ => rfl, rfl, fun _ _ => rfl, ⟨0, 0, rfl, rfl, rfl, by omega, by omega, fun j hj => absurd hj (Nat.not_lt_zero j)⟩, fun s _ => ⟨rfl, Or.inl rfl⟩, 0, by omega, rfl, rfl, fun j hj => absurd hj (Nat.not_lt_zero j)⟩
