/-! told: the text that the law writes, and that it is a winter -/
/-- the text row holds L signs; rest are those from the reader's place on; no error so far -/
def PR (t : Row) (L : Nat) (rest : List Nat) : Prop := ∃ a, a + rest.length = L ∧ L ≤ 120 ∧ t 131 = nI L ∧ t 132 = nI a ∧ t 133 = -1 ∧ ∀ j c, rest[j]? = some c → t (a + j) = nI c
theorem pr_hi {t : Row} {L k : Nat} {v : Int32} {rest : List Nat} (h : PR t L rest) (hk : 134 ≤ k) : PR (upd t k v) L rest := by
  obtain ⟨a, h1, h2, h3, h4, h5, h6⟩ := h
  refine ⟨a, h1, h2, by rw [pk_un (by omega), h3], by rw [pk_un (by omega), h4], by rw [pk_un (by omega), h5], fun j c hj => ?_⟩
  have hj2 := (List.getElem?_eq_some_iff.mp hj).1
  rw [pk_un (by omega)]
  exact h6 j c hj
theorem pr_sign {t : Row} {L c : Nat} {rest : List Nat} (h : PR t L (c :: rest)) : f_X3_nextSign t = some (nI c) := by
  obtain ⟨a, h1, h2, h3, h4, h5, h6⟩ := h
  rw [List.length_cons] at h1
  have h0 := h6 0 c rfl
  rw [Nat.add_zero] at h0
  unfold f_X3_nextSign
  rw [h4, h3, if_neg (nI_pos (by omega)), if_neg (fun x => by rw [le_nI (by omega) (by omega)] at x; omega), if_neg (fun x => by rw [show (120 : Int32) = nI 120 from rfl, le_nI (by omega) (by omega)] at x; omega), if_neg (by rw [oob_nI (by omega)]; omega), cl_nI (by omega), h0]
theorem pr_step {t : Row} {L c : Nat} {rest : List Nat} (h : PR t L (c :: rest)) : PR (upd t 132 (t 132 + 1)) L rest := by
  obtain ⟨a, h1, h2, h3, h4, h5, h6⟩ := h
  rw [List.length_cons] at h1
  refine ⟨a + 1, by omega, h2, by rw [pk_un (by omega), h3], by rw [pk_us, h4]; exact add_nI a 1, by rw [pk_un (by omega), h5], fun j e hj => ?_⟩
  have hj2 := (List.getElem?_eq_some_iff.mp hj).1
  rw [pk_un (by omega), show a + 1 + j = a + (j + 1) by omega]
  exact h6 (j + 1) e (by rw [List.getElem?_cons_succ]; exact hj)
theorem pr_digit {t : Row} {L c lo hi : Nat} {rest : List Nat} (h : PR t L (c :: rest)) (h9 : hi ≤ 9) (h1 : 48 + lo ≤ c) (h2 : c ≤ 48 + hi) : ∃ t', f_X3_readDigit t (nI lo) (nI hi) = some (nI (c - 48), t') ∧ PR t' L rest := by
  refine ⟨upd t 132 (t 132 + 1), ?_, pr_step h⟩
  have hs := pr_sign h
  obtain ⟨a, _, _, _, _, h5, _⟩ := h
  unfold f_X3_readDigit
  rw [if_pos h5, hs, Option.bind_some, show (48 : Int32) = nI 48 from rfl, add_nI, add_nI, if_neg (fun x => by rw [lt_nI (by omega) (by omega)] at x; omega), if_pos ((le_nI (by omega) (by omega)).mpr h2), sub_nI (by omega)]
theorem pr_number {t : Row} {L c1 c2 lo hi : Nat} {rest : List Nat} (h : PR t L (c1 :: c2 :: rest)) (hlo : lo < 100) (hhi : hi < 100) (u1 : 48 + lo / 10 ≤ c1) (u2 : c1 ≤ 48 + hi / 10) (v1 : 48 + (if c1 - 48 = lo / 10 then lo % 10 else 0) ≤ c2) (v2 : c2 ≤ 48 + (if c1 - 48 = hi / 10 then hi % 10 else 9)) : ∃ x t', f_X3_readNumber t (nI lo) (nI hi) = some (x, t') ∧ PR t' L rest := by
  obtain ⟨t1, e1, p1⟩ := pr_digit h (by omega : hi / 10 ≤ 9) u1 u2
  obtain ⟨t2, e2, p2⟩ := pr_digit p1 (by split <;> omega) v1 v2
  exact ⟨_, t2, by rw [two3 hlo hhi (by omega) (by omega) e1, e2, Option.bind_some], p2⟩
theorem pr_cB {t : Row} {L c : Nat} {rest : List Nat} (h : PR t L (c :: rest)) : ∃ B, PR B L rest ∧ B 134 = nI c ∧ f_X3_readCommand t = (if B 134 = (100 : Int32) then ((f_X3_readTemperature B).bind fun r4 => ((f_X3_readNumber (upd r4.2 135 r4.1) (0 : Int32) (30 : Int32)).bind fun r6 => ((f_X3_readNumber (upd r6.2 136 r6.1) (1 : Int32) (60 : Int32)).bind fun r8 => some (upd r8.2 137 r8.1)))) else (if B 134 = (101 : Int32) then ((f_X3_readDigit B (0 : Int32) (2 : Int32)).bind fun r11 => ((f_X3_readNumber (upd r11.2 135 r11.1) (0 : Int32) (50 : Int32)).bind fun r13 => some (upd r13.2 136 r13.1))) else (if B 134 = (102 : Int32) then ((f_X3_readDigit B (0 : Int32) (3 : Int32)).bind fun r16 => ((f_X3_readNumber (upd r16.2 135 r16.1) (0 : Int32) (20 : Int32)).bind fun r18 => some (upd r18.2 136 r18.1))) else (if B 134 = (112 : Int32) then ((f_X3_readDigit B (0 : Int32) (3 : Int32)).bind fun r21 => ((f_X3_readNumber (upd r21.2 135 r21.1) (0 : Int32) (29 : Int32)).bind fun r23 => some (upd r23.2 136 r23.1))) else (if B 134 = (115 : Int32) then some B else (if B 134 = (116 : Int32) then ((f_X3_readDigit B (0 : Int32) (3 : Int32)).bind fun r27 => ((f_X3_readNumber (upd r27.2 135 r27.1) (1 : Int32) (30 : Int32)).bind fun r29 => some (upd r29.2 136 r29.1))) else (if B 134 = (119 : Int32) then some B else (if B 134 = (120 : Int32) then ((f_X3_readDigit B (0 : Int32) (3 : Int32)).bind fun r33 => some (upd r33.2 135 r33.1)) else some (upd B 133 (B 132 - (1 : Int32))))))))))) := by
  refine ⟨upd (upd (upd (upd (upd t 134 (nI c)) 135 0) 136 0) 137 0) 132 ((upd (upd (upd (upd t 134 (nI c)) 135 0) 136 0) 137 0) 132 + 1), pr_step (pr_hi (pr_hi (pr_hi (pr_hi h (by omega)) (by omega)) (by omega)) (by omega)), rfl, ?_⟩
  unfold f_X3_readCommand
  rw [pr_sign h, Option.bind_some]
theorem nI_nc {a b : Nat} (ha : a < 1000) (hb : b < 1000) (h : a ≠ b) : ¬ nI a = nI b := fun x => by rw [eq_nI (by omega) (by omega)] at x; exact h x
/-- the commands that the law writes are read to their ends -/
theorem rdc_s {t : Row} {L : Nat} {rest : List Nat} (h : PR t L (115 :: rest)) : ∃ t', f_X3_readCommand t = some t' ∧ PR t' L rest := by
  obtain ⟨B, p, e, hr⟩ := pr_cB h
  rw [hr, e, if_neg (by decide), if_neg (by decide), if_neg (by decide), if_neg (by decide), if_pos (by decide)]
  exact ⟨B, rfl, p⟩
theorem rdc_w {t : Row} {L : Nat} {rest : List Nat} (h : PR t L (119 :: rest)) : ∃ t', f_X3_readCommand t = some t' ∧ PR t' L rest := by
  obtain ⟨B, p, e, hr⟩ := pr_cB h
  rw [hr, e, if_neg (by decide), if_neg (by decide), if_neg (by decide), if_neg (by decide), if_neg (by decide), if_neg (by decide), if_pos (by decide)]
  exact ⟨B, rfl, p⟩
theorem rdc_x {t : Row} {L c : Nat} {rest : List Nat} (h : PR t L (120 :: c :: rest)) (h1 : 48 ≤ c) (h2 : c ≤ 51) : ∃ t', f_X3_readCommand t = some t' ∧ PR t' L rest := by
  obtain ⟨B, p, e, hr⟩ := pr_cB h
  obtain ⟨t1, e1, p1⟩ := pr_digit (lo := 0) (hi := 3) p (by omega) (by omega) (by omega)
  have e1' : f_X3_readDigit B 0 3 = some (nI (c - 48), t1) := e1
  rw [hr, e, if_neg (by decide), if_neg (by decide), if_neg (by decide), if_neg (by decide), if_neg (by decide), if_neg (by decide), if_neg (by decide), if_pos (by decide), e1', Option.bind_some]
  exact ⟨_, rfl, pr_hi p1 (by omega)⟩
theorem rdc_f {t : Row} {L c1 c2 c3 : Nat} {rest : List Nat} (h : PR t L (102 :: c1 :: c2 :: c3 :: rest)) (h1 : 48 ≤ c1) (h2 : c1 ≤ 51) (h3 : c2 = 48) (h4 : 48 ≤ c3) (h5 : c3 ≤ 57) : ∃ t', f_X3_readCommand t = some t' ∧ PR t' L rest := by
  obtain ⟨B, p, e, hr⟩ := pr_cB h
  obtain ⟨t1, e1, p1⟩ := pr_digit (lo := 0) (hi := 3) p (by omega) (by omega) (by omega)
  have e1' : f_X3_readDigit B 0 3 = some (nI (c1 - 48), t1) := e1
  obtain ⟨x, t2, e2, p2⟩ := pr_number (lo := 0) (hi := 20) (pr_hi (k := 135) (v := nI (c1 - 48)) p1 (by omega)) (by omega) (by omega) (by omega) (by omega) (by split <;> omega) (by split <;> omega)
  have e2' : f_X3_readNumber (upd t1 135 (nI (c1 - 48))) 0 20 = some (x, t2) := e2
  rw [hr, e, if_neg (by decide), if_neg (by decide), if_pos (by decide), e1', Option.bind_some, e2', Option.bind_some]
  exact ⟨_, rfl, pr_hi p2 (by omega)⟩
theorem rdc_p {t : Row} {L c1 c2 c3 : Nat} {rest : List Nat} (h : PR t L (112 :: c1 :: c2 :: c3 :: rest)) (h1 : 48 ≤ c1) (h2 : c1 ≤ 51) (h3 : c2 = 48) (h4 : 48 ≤ c3) (h5 : c3 ≤ 57) : ∃ t', f_X3_readCommand t = some t' ∧ PR t' L rest := by
  obtain ⟨B, p, e, hr⟩ := pr_cB h
  obtain ⟨t1, e1, p1⟩ := pr_digit (lo := 0) (hi := 3) p (by omega) (by omega) (by omega)
  have e1' : f_X3_readDigit B 0 3 = some (nI (c1 - 48), t1) := e1
  obtain ⟨x, t2, e2, p2⟩ := pr_number (lo := 0) (hi := 29) (pr_hi (k := 135) (v := nI (c1 - 48)) p1 (by omega)) (by omega) (by omega) (by omega) (by omega) (by split <;> omega) (by split <;> omega)
  have e2' : f_X3_readNumber (upd t1 135 (nI (c1 - 48))) 0 29 = some (x, t2) := e2
  rw [hr, e, if_neg (by decide), if_neg (by decide), if_neg (by decide), if_pos (by decide), e1', Option.bind_some, e2', Option.bind_some]
  exact ⟨_, rfl, pr_hi p2 (by omega)⟩
theorem rdc_t {t : Row} {L c1 c2 c3 : Nat} {rest : List Nat} (h : PR t L (116 :: c1 :: c2 :: c3 :: rest)) (h1 : 48 ≤ c1) (h2 : c1 ≤ 51) (h3 : c2 = 49) (h4 : 48 ≤ c3) (h5 : c3 ≤ 57) : ∃ t', f_X3_readCommand t = some t' ∧ PR t' L rest := by
  obtain ⟨B, p, e, hr⟩ := pr_cB h
  obtain ⟨t1, e1, p1⟩ := pr_digit (lo := 0) (hi := 3) p (by omega) (by omega) (by omega)
  have e1' : f_X3_readDigit B 0 3 = some (nI (c1 - 48), t1) := e1
  obtain ⟨x, t2, e2, p2⟩ := pr_number (lo := 1) (hi := 30) (pr_hi (k := 135) (v := nI (c1 - 48)) p1 (by omega)) (by omega) (by omega) (by omega) (by omega) (by split <;> omega) (by split <;> omega)
  have e2' : f_X3_readNumber (upd t1 135 (nI (c1 - 48))) 1 30 = some (x, t2) := e2
  rw [hr, e, if_neg (by decide), if_neg (by decide), if_neg (by decide), if_neg (by decide), if_neg (by decide), if_pos (by decide), e1', Option.bind_some, e2', Option.bind_some]
  exact ⟨_, rfl, pr_hi p2 (by omega)⟩
theorem rdc_e {t : Row} {L c2 c3 : Nat} {rest : List Nat} (h : PR t L (101 :: 50 :: c2 :: c3 :: rest)) (h3 : 48 ≤ c2) (h4 : c2 ≤ 52) (h5 : c3 = 55) : ∃ t', f_X3_readCommand t = some t' ∧ PR t' L rest := by
  obtain ⟨B, p, e, hr⟩ := pr_cB h
  obtain ⟨t1, e1, p1⟩ := pr_digit (lo := 0) (hi := 2) p (by omega) (by omega) (by omega)
  have e1' : f_X3_readDigit B 0 2 = some (nI (50 - 48), t1) := e1
  obtain ⟨x, t2, e2, p2⟩ := pr_number (lo := 0) (hi := 50) (pr_hi (k := 135) (v := nI (50 - 48)) p1 (by omega)) (by omega) (by omega) (by omega) (by omega) (by split <;> omega) (by split <;> omega)
  have e2' : f_X3_readNumber (upd t1 135 (nI (50 - 48))) 0 50 = some (x, t2) := e2
  rw [hr, e, if_neg (by decide), if_pos (by decide), e1', Option.bind_some, e2', Option.bind_some]
  exact ⟨_, rfl, pr_hi p2 (by omega)⟩
theorem rdc_d {t : Row} {L s c1 c2 c3 c4 c5 c6 : Nat} {rest : List Nat} (h : PR t L (100 :: s :: c1 :: c2 :: c3 :: c4 :: c5 :: c6 :: rest)) (hs : s = 43 ∨ s = 45) (h1 : 48 ≤ c1) (h2 : c1 ≤ 50) (h3 : 48 ≤ c2) (h4 : c2 ≤ 57) (h5 : c3 = 48) (h6 : 48 ≤ c4) (h7 : c4 ≤ 57) (h8 : c5 = 48) (h9 : 49 ≤ c6) (h10 : c6 ≤ 57) : ∃ t', f_X3_readCommand t = some t' ∧ PR t' L rest := by
  obtain ⟨B, p, e, hr⟩ := pr_cB h
  obtain ⟨x1, t1, e1, p1⟩ := pr_number (lo := 0) (hi := 30) (pr_step p) (by omega) (by omega) (by omega) (by omega) (by split <;> omega) (by split <;> omega)
  have e1' : f_X3_readNumber (upd B 132 (B 132 + 1)) 0 30 = some (x1, t1) := e1
  have hT : ∃ y, f_X3_readTemperature B = some (y, t1) := by
    have hf : ∀ v : Int32, fl_X3_readTemperature FU B v = if v = 45 then some (-x1, t1) else some (x1, t1) := fun v => by
      show fb_X3_readTemperature_1 (fl_X3_readTemperature 999999999) B v = _
      unfold fb_X3_readTemperature_1
      rw [e1', Option.bind_some]
    unfold f_X3_readTemperature
    rw [pr_sign p, Option.bind_some]
    rcases hs with rfl | rfl
    · rw [if_pos (by decide), hf, if_neg (by decide)]
      exact ⟨_, rfl⟩
    · rw [if_neg (by decide), if_pos (by decide), hf, if_pos (by decide)]
      exact ⟨_, rfl⟩
  obtain ⟨y, hy⟩ := hT
  obtain ⟨x2, t2, e2, p2⟩ := pr_number (lo := 0) (hi := 30) (pr_hi (k := 135) (v := y) p1 (by omega)) (by omega) (by omega) (by omega) (by omega) (by split <;> omega) (by split <;> omega)
  have e2' : f_X3_readNumber (upd t1 135 y) 0 30 = some (x2, t2) := e2
  obtain ⟨x3, t3, e3, p3⟩ := pr_number (lo := 1) (hi := 60) (pr_hi (k := 136) (v := x2) p2 (by omega)) (by omega) (by omega) (by omega) (by omega) (by split <;> omega) (by split <;> omega)
  have e3' : f_X3_readNumber (upd t2 136 x2) 1 60 = some (x3, t3) := e3
  rw [hr, e, if_pos (by decide), hy, Option.bind_some, e2', Option.bind_some, e3', Option.bind_some]
  exact ⟨_, rfl, pr_hi p3 (by omega)⟩
/-- the reader goes on over a list of signs, k commands long -/
def GoT9 (k : Nat) (l : List Nat) : Prop := ∀ (t : Row) (L : Nat) (rest : List Nat) (n i : Nat), PR t L (l ++ rest) → i + k ≤ 100 → ∃ t', fl_X3_findError (n + k) t (nI i) = fl_X3_findError n t' (nI (i + k)) ∧ PR t' L rest
theorem goes_nil : GoT9 0 [] := fun t L rest n i h _ => ⟨t, rfl, h⟩
theorem goes_one {l : List Nat} (hl : l ≠ []) (h : ∀ t L rest, PR t L (l ++ rest) → ∃ t', f_X3_readCommand t = some t' ∧ PR t' L rest) : GoT9 1 l := fun t L rest n i hp hi => by
  obtain ⟨t', e1, p1⟩ := h t L rest hp
  refine ⟨t', ?_, p1⟩
  obtain ⟨a, h1, h2, h3, h4, h5, _⟩ := hp
  have hlen : 0 < l.length := List.length_pos_iff.mpr hl
  rw [List.length_append] at h1
  show fb_X3_findError_1 (fl_X3_findError n) t (nI i) = _
  unfold fb_X3_findError_1
  have hc : f_X3_hasCommand t = some 1 := by
    unfold f_X3_hasCommand
    rw [if_pos h5, h3, h4, if_neg (fun x => by rw [le_nI (by omega) (by omega)] at x; omega)]
  rw [if_neg (fun x => by rw [show (120 : Int32) = nI 120 from rfl, le_nI (by omega) (by omega)] at x; omega), hc, Option.bind_some, if_neg i10, e1, Option.bind_some, show nI i + 1 = nI (i + 1) from add_nI i 1]
theorem goes_app {j k : Nat} {l m : List Nat} (hl : GoT9 j l) (hm : GoT9 k m) : GoT9 (j + k) (l ++ m) := fun t L rest n i hp hi => by
  rw [List.append_assoc] at hp
  obtain ⟨t1, e1, p1⟩ := hl t L (m ++ rest) (n + k) i hp (by omega)
  obtain ⟨t2, e2, p2⟩ := hm t1 L rest n (i + j) p1 (by omega)
  refine ⟨t2, ?_, p2⟩
  rw [show n + (j + k) = n + k + j by omega, e1, e2, Nat.add_assoc]
theorem goes_end {k : Nat} {l : List Nat} {t : Row} {L : Nat} (h : GoT9 k l) (hk : k ≤ 100) (h1 : t 131 = nI L) (hL : L = l.length + 1) (hL2 : L ≤ 120) (hD : t 0 = nI 68) (hl : ∀ j c, l[j]? = some c → t (1 + j) = nI c) : ∃ t', f_X3_findError t = some (-1, t') := by
  have h0 : PR (upd (upd t 132 0) 133 (-1)) L (68 :: l) := by
    refine ⟨0, by rw [List.length_cons]; omega, hL2, by rw [pk_un (by omega), pk_un (by omega), h1], by rw [pk_un (by omega), pk_us]; rfl, pk_us, fun j c hj => ?_⟩
    have hj2 := (List.getElem?_eq_some_iff.mp hj).1
    rw [List.length_cons] at hj2
    rw [pk_un (by omega), pk_un (by omega)]
    cases j with
    | zero =>
      rw [List.getElem?_cons_zero] at hj
      cases hj
      exact hD
    | succ j =>
      rw [List.getElem?_cons_succ] at hj
      rw [show 0 + (j + 1) = 1 + j by omega]
      exact hl j c hj
  have hp := pr_step h0
  have e9 : upd (upd t 132 0) 133 (-1) 132 + 1 = 1 := by rw [pk_un (by omega), pk_us]; rfl
  rw [e9] at hp
  have hs : f_X3_startReading t = some (upd (upd (upd t 132 0) 133 (-1)) 132 1) := by
    unfold f_X3_startReading
    rw [pr_sign h0, Option.bind_some, if_pos (by decide)]
  obtain ⟨t', e1, a, p1, p2, p3, p4, p5, p6⟩ := h _ L [] (1000000000 - k) 0 (by rw [List.append_nil]; exact hp) (by omega)
  rw [List.length_nil] at p1
  refine ⟨t', ?_⟩
  unfold f_X3_findError
  rw [hs, Option.bind_some]
  have e2 : fl_X3_findError FU (upd (upd (upd t 132 0) 133 (-1)) 132 1) 0 = fl_X3_findError (1000000000 - k) t' (nI (0 + k)) := by
    rw [← e1]
    show _ = fl_X3_findError (1000000000 - k + k) _ (nI 0)
    rw [show 1000000000 - k + k = FU from Nat.sub_add_cancel (by omega)]
    rfl
  rw [e2]
  obtain ⟨n', hn'⟩ : ∃ n', 1000000000 - k = n' + 1 := ⟨1000000000 - k - 1, by omega⟩
  rw [hn']
  show fb_X3_findError_1 (fl_X3_findError n') t' (nI (0 + k)) = _
  unfold fb_X3_findError_1
  have hc : f_X3_hasCommand t' = some 0 := by
    unfold f_X3_hasCommand
    rw [if_pos p5, p3, p4, if_pos ((le_nI (by omega) (by omega)).mpr (by omega))]
  rw [if_neg (fun x => by rw [show (120 : Int32) = nI 120 from rfl, le_nI (by omega) (by omega)] at x; omega), hc, Option.bind_some, if_pos rfl, p5]
/-- a text buffer with the signs l, all else as in μ0 -/
def TX9 (μ0 μ : Mem) (l : List Nat) : Prop := (∀ i, i ≠ 19 → μ i = μ0 i) ∧ μ 19 131 = nI l.length ∧ ∀ j c, l[j]? = some c → μ 19 j = nI c
theorem tx_app {μ0 μ : Mem} {l : List Nat} {c : Nat} (h : TX9 μ0 μ l) (hl : l.length < 120) (hc : c ≤ 255) : ∃ μ', f_L_append μ (nI c) = some (nL (l.length + 1), μ') ∧ TX9 μ0 μ' (l ++ [c]) := by
  obtain ⟨h1, h2, h3⟩ := h
  refine ⟨va_up μ 19 (upd (upd (μ 19) l.length (nI c)) 131 (nI (l.length + 1))), ?_, fun i hi => by rw [mu_off _ _ hi]; exact h1 i hi, by rw [mu_at, pk_us, List.length_append]; rfl, fun j e hj => ?_⟩
  · have hr : (0 : Int32) ≤ nI c ∧ nI c ≤ 255 := ⟨nI_pos' (by omega), by rw [show (255 : Int32) = nI 255 from rfl, le_nI (by omega) (by omega)]; exact hc⟩
    have hp : f_X3_put (μ 19) (nI c) = some (upd (upd (μ 19) l.length (nI c)) 131 (nI (l.length + 1))) := by
      unfold f_X3_put
      rw [h2, if_neg (fun x => by rw [show (120 : Int32) = nI 120 from rfl, le_nI (by omega) (by omega)] at x; omega), if_neg (by rw [oob_nI (by omega)]; omega), cl_nI (by omega), pk_un (by omega), h2, show nI l.length + 1 = nI (l.length + 1) from add_nI _ 1]
    unfold f_L_append f_X4_append
    rw [X4_needRange_y hr, Option.bind_some, if_pos rfl, h2, if_pos (by rw [show (120 : Int32) = nI 120 from rfl, lt_nI (by omega) (by omega)]; exact hl), hp, Option.bind_some, Option.bind_some, if_pos rfl, mu_at, pk_us, nI_L (by omega)]
  · rw [mu_at]
    by_cases e1 : j < l.length
    · rw [List.getElem?_append_left e1] at hj
      rw [pk_un (by omega), pk_un (by omega)]
      exact h3 j e hj
    · rw [List.getElem?_append_right (by omega)] at hj
      have hj2 := (List.getElem?_eq_some_iff.mp hj).1
      rw [List.length_singleton] at hj2
      have e2 : j = l.length := by omega
      subst e2
      rw [Nat.sub_self] at hj
      cases hj
      rw [pk_un (by omega), pk_us]
theorem tx_says {μ0 μ : Mem} {l : List Nat} {a b c e : Nat} (h : TX9 μ0 μ l) (hl : l.length + 4 ≤ 120) (ha : a ≤ 255) (hb : b ≤ 255) (hc : c ≤ 255) (he : e ≤ 255) : ∃ μ', f_L_says μ (nI a) (nI b) (nI c) (nI e) = some (1, μ') ∧ TX9 μ0 μ' (l ++ [a, b, c, e]) := by
  obtain ⟨μ1, e1, p1⟩ := tx_app h (by omega) ha
  obtain ⟨μ2, e2, p2⟩ := tx_app p1 (by rw [List.length_append, List.length_singleton]; omega) hb
  obtain ⟨μ3, e3, p3⟩ := tx_app p2 (by rw [List.length_append, List.length_append, List.length_singleton, List.length_singleton]; omega) hc
  obtain ⟨μ4, e4, p4⟩ := tx_app p3 (by rw [List.length_append, List.length_append, List.length_append, List.length_singleton, List.length_singleton, List.length_singleton]; omega) he
  refine ⟨μ4, ?_, ?_⟩
  · unfold f_L_says
    have pos : ∀ (k : Nat) (m : Mem), k < 1000 → ¬ lg_cmp (nL (k + 1), m).1 0 ≤ 0 := fun k m hk h => by
      have h' : lg_cmp (nL (k + 1)) 0 ≤ 0 := h
      rw [cle0 (by omega)] at h'
      omega
    have l1 : (l ++ [a]).length < 1000 := by rw [List.length_append, List.length_singleton]; omega
    have l2 : (l ++ [a] ++ [b]).length < 1000 := by rw [List.length_append, List.length_append, List.length_singleton, List.length_singleton]; omega
    have l3 : (l ++ [a] ++ [b] ++ [c]).length < 1000 := by rw [List.length_append, List.length_append, List.length_append, List.length_singleton, List.length_singleton, List.length_singleton]; omega
    rw [e1, Option.bind_some, if_neg (pos _ _ (by omega)), show f_L_append (nL (l.length + 1), μ1).2 (nI b) = _ from e2, Option.bind_some, if_neg (pos _ _ l1), show f_L_append (nL ((l ++ [a]).length + 1), μ2).2 (nI c) = _ from e3, Option.bind_some, if_neg (pos _ _ l2), show f_L_append (nL ((l ++ [a] ++ [b]).length + 1), μ3).2 (nI e) = _ from e4, Option.bind_some, if_neg (pos _ _ l3)]
  · rw [List.append_assoc, List.append_assoc, List.append_assoc] at p4
    exact p4
/-- the signs of one round of the law's loop, of the number y -/
def blk (y : Nat) : List Nat := [112, 48 + y % 3, 48, 48 + y % 10] ++ [100, (if y % 4 = 0 then 43 else 45), 48 + y % 3, 48 + y % 10] ++ [48, 48 + y / 3 % 10, 48, 49 + y % 9]
theorem goes_blk (y : Nat) : GoT9 2 (blk y) := by
  have h1 : GoT9 1 [112, 48 + y % 3, 48, 48 + y % 10] := goes_one (by simp) (fun t L rest h => rdc_p h (by omega) (by omega) rfl (by omega) (by omega))
  have h2 : GoT9 1 ([100, (if y % 4 = 0 then 43 else 45), 48 + y % 3, 48 + y % 10] ++ [48, 48 + y / 3 % 10, 48, 49 + y % 9]) := goes_one (by simp) (fun t L rest h => rdc_d h (by split <;> simp) (by omega) (by omega) (by omega) (by omega) rfl (by omega) (by omega) rfl (by omega) (by omega))
  have h3 := goes_app h1 h2
  unfold blk
  rw [List.append_assoc]
  exact h3
theorem rem_nI {a k : Nat} (ha : a < 2147483648) (h0 : 0 < k) (hk : k < 2147483648) : nI a - nI a / nI k * nI k = nI (a % k) := pk_rem ha h0 hk
theorem sh_nI {a k : Nat} (ha : a < 2147483648) (hk : k < 31) : nI a >>> (nI k &&& 31) = nI (a / 2 ^ k) := by
  have e : nI k &&& 31 = nI k := by
    have : k = 0 ∨ k = 1 ∨ k = 2 ∨ k = 3 ∨ k = 4 ∨ k = 5 ∨ k = 6 ∨ k = 7 ∨ k = 8 ∨ k = 9 ∨ k = 10 ∨ k = 11 ∨ k = 12 ∨ k = 13 ∨ k = 14 ∨ k = 15 ∨ k = 16 ∨ k = 17 ∨ k = 18 ∨ k = 19 ∨ k = 20 ∨ k = 21 ∨ k = 22 ∨ k = 23 ∨ k = 24 ∨ k = 25 ∨ k = 26 ∨ k = 27 ∨ k = 28 ∨ k = 29 ∨ k = 30 := by omega
    rcases this with rfl | rfl | rfl | rfl | rfl | rfl | rfl | rfl | rfl | rfl | rfl | rfl | rfl | rfl | rfl | rfl | rfl | rfl | rfl | rfl | rfl | rfl | rfl | rfl | rfl | rfl | rfl | rfl | rfl | rfl | rfl <;> decide
  rw [e]
  refine pk_shrN ha (nI k) k ?_
  have : k = 0 ∨ k = 1 ∨ k = 2 ∨ k = 3 ∨ k = 4 ∨ k = 5 ∨ k = 6 ∨ k = 7 ∨ k = 8 ∨ k = 9 ∨ k = 10 ∨ k = 11 ∨ k = 12 ∨ k = 13 ∨ k = 14 ∨ k = 15 ∨ k = 16 ∨ k = 17 ∨ k = 18 ∨ k = 19 ∨ k = 20 ∨ k = 21 ∨ k = 22 ∨ k = 23 ∨ k = 24 ∨ k = 25 ∨ k = 26 ∨ k = 27 ∨ k = 28 ∨ k = 29 ∨ k = 30 := by omega
  rcases this with rfl | rfl | rfl | rfl | rfl | rfl | rfl | rfl | rfl | rfl | rfl | rfl | rfl | rfl | rfl | rfl | rfl | rfl | rfl | rfl | rfl | rfl | rfl | rfl | rfl | rfl | rfl | rfl | rfl | rfl | rfl <;> decide
theorem blk_len (y : Nat) : (blk y).length = 12 := rfl
/-- the loop: its rounds from k on -/
def blks (x : Nat) : Nat → Nat → List Nat
  | _, 0 => []
  | k, m + 1 => blk (x / 2 ^ k) ++ blks x (k + 1) m
theorem blks_len (x : Nat) : ∀ m k, (blks x k m).length = 12 * m
  | 0, _ => rfl
  | m + 1, k => by
    show (blk (x / 2 ^ k) ++ blks x (k + 1) m).length = _
    rw [List.length_append, blk_len, blks_len x m (k + 1)]
    omega
theorem goes_blks (x : Nat) : ∀ m k, GoT9 (2 * m) (blks x k m)
  | 0, _ => goes_nil
  | m + 1, k => by
    rw [show 2 * (m + 1) = 2 + 2 * m by omega]
    exact goes_app (goes_blk _) (goes_blks x m (k + 1))
theorem td_blk {μ0 μ : Mem} {l : List Nat} {x k n : Nat} (hx : x < 2147483648) (h : TX9 μ0 μ l) (hl : l.length + 12 ≤ 120) (hk : k < 1 + x % 4) : ∃ μ', fl_L_told (nI x) (n + 2) 1 μ 0 0 1 (nI k) 0 = fl_L_told (nI x) n 1 μ' 0 0 1 (nI (k + 1)) 0 ∧ TX9 μ0 μ' (l ++ blk (x / 2 ^ k)) := by
  have hy : x / 2 ^ k < 2147483648 := Nat.lt_of_le_of_lt (Nat.div_le_self _ _) hx
  generalize hyy : x / 2 ^ k = y at hy
  have hs : nI x >>> (nI k &&& 31) = nI y := by rw [sh_nI hx (by omega), hyy]
  obtain ⟨μ1, e1, p1⟩ := tx_says (a := 112) (b := 48 + y % 3) (c := 48) (e := 48 + y % 10) h (by omega) (by omega) (by omega) (by omega) (by omega)
  have q1 : (l ++ [112, 48 + y % 3, 48, 48 + y % 10]).length = l.length + 4 := by rw [List.length_append]; rfl
  obtain ⟨μ2, e2, p2⟩ := tx_says (a := 100) (b := if y % 4 = 0 then 43 else 45) (c := 48 + y % 3) (e := 48 + y % 10) p1 (by omega) (by omega) (by split <;> omega) (by omega) (by omega)
  have q2 : (l ++ [112, 48 + y % 3, 48, 48 + y % 10] ++ [100, (if y % 4 = 0 then 43 else 45), 48 + y % 3, 48 + y % 10]).length = l.length + 8 := by rw [List.length_append, q1]; rfl
  obtain ⟨μ3, e3, p3⟩ := tx_says (a := 48) (b := 48 + y / 3 % 10) (c := 48) (e := 49 + y % 9) p2 (by omega) (by omega) (by omega) (by omega) (by omega)
  have m3 : nI y - nI y / 3 * 3 = nI (y % 3) := rem_nI (k := 3) hy (by omega) (by omega)
  have m10 : nI y - nI y / 10 * 10 = nI (y % 10) := rem_nI (k := 10) hy (by omega) (by omega)
  have m4 : nI y - nI y / 4 * 4 = nI (y % 4) := rem_nI (k := 4) hy (by omega) (by omega)
  have m9 : nI y - nI y / 9 * 9 = nI (y % 9) := rem_nI (k := 9) hy (by omega) (by omega)
  have d3 : nI y / 3 = nI (y / 3) := pk_div (d := 3) hy (by omega) (by omega)
  have m30 : nI (y / 3) - nI (y / 3) / 10 * 10 = nI (y / 3 % 10) := rem_nI (k := 10) (by omega) (by omega) (by omega)
  have a48 : ∀ a : Nat, (48 : Int32) + nI a = nI (48 + a) := fun a => add_nI 48 a
  have a49 : ∀ a : Nat, (49 : Int32) + nI a = nI (49 + a) := fun a => add_nI 49 a
  have mx4 : (1 : Int32) + (nI x - nI x / 4 * 4) = nI (1 + x % 4) := by
    rw [show nI x - nI x / 4 * 4 = nI (x % 4) from rem_nI (k := 4) hx (by omega) (by omega)]
    exact add_nI 1 _
  have s3 : ∀ q : Nat, fl_L_told (nI x) (n + 1) 3 μ1 (nI (if y % 4 = 0 then 43 else 45)) 100 0 (nI k) (nI y) = fl_L_told (nI x) n 1 μ3 0 0 1 (nI (k + 1)) 0 := fun _ => by
    show fb_L_told_3 (nI x) (fl_L_told (nI x) n) μ1 (nI (if y % 4 = 0 then 43 else 45)) 100 0 (nI k) (nI y) = _
    unfold fb_L_told_3
    rw [m3, m10, d3, m30, m9, a48, a48, a48, a49, show f_L_says μ1 100 (nI (if y % 4 = 0 then 43 else 45)) (nI (48 + y % 3)) (nI (48 + y % 10)) = _ from e2, Option.bind_some, if_neg (show ¬ ((1 : Int32), μ2).1 = 0 from i10), show f_L_says ((1 : Int32), μ2).2 48 (nI (48 + y / 3 % 10)) 48 (nI (49 + y % 9)) = _ from e3, Option.bind_some, if_neg (show ¬ ((1 : Int32), μ3).1 = 0 from i10), show nI k + 1 = nI (k + 1) from add_nI k 1]
  refine ⟨μ3, ?_, ?_⟩
  · show fb_L_told_1 (nI x) (fl_L_told (nI x) (n + 1)) μ 0 0 1 (nI k) 0 = _
    unfold fb_L_told_1
    rw [mx4, if_neg (fun z => by rw [le_nI (by omega) (by omega)] at z; omega), if_neg i10, hs, m3, m10, m4, a48, a48, show f_L_says μ 112 (nI (48 + y % 3)) 48 (nI (48 + y % 10)) = _ from e1, Option.bind_some, if_neg (show ¬ ((1 : Int32), μ1).1 = 0 from i10)]
    by_cases e4 : y % 4 = 0
    · have := s3 0
      rw [if_pos e4] at this
      rw [e4, if_pos (show nI 0 = 0 from rfl)]
      exact this
    · have := s3 0
      rw [if_neg e4] at this
      rw [if_neg (nI_ne0 (by omega) (by omega))]
      exact this
  · unfold blk
    rw [List.append_assoc, List.append_assoc] at p3
    rw [List.append_assoc]
    exact p3
theorem td_blks {μ0 : Mem} {x : Nat} (hx : x < 2147483648) : ∀ m k n (μ : Mem) (l : List Nat), TX9 μ0 μ l → l.length + 12 * m ≤ 120 → k + m = 1 + x % 4 → ∃ μ', fl_L_told (nI x) (n + 2 * m) 1 μ 0 0 1 (nI k) 0 = fl_L_told (nI x) n 1 μ' 0 0 1 (nI (1 + x % 4)) 0 ∧ TX9 μ0 μ' (l ++ blks x k m)
  | 0, k, n, μ, l, h, _, hk => ⟨μ, by rw [← hk]; rfl, by show TX9 μ0 μ (l ++ []); rw [List.append_nil]; exact h⟩
  | m + 1, k, n, μ, l, h, hl, hk => by
    obtain ⟨μ1, e1, p1⟩ := td_blk (n := n + 2 * m) hx h (by omega) (by omega : k < 1 + x % 4)
    obtain ⟨μ2, e2, p2⟩ := td_blks hx m (k + 1) n μ1 _ p1 (by rw [List.length_append, blk_len]; omega) (by omega)
    refine ⟨μ2, ?_, ?_⟩
    · rw [show n + 2 * (m + 1) = n + 2 * m + 2 by omega, e1, e2]
    · rw [List.append_assoc] at p2
      exact p2
/-- the signs that the law writes -/
def tsg (x : Nat) : List Nat := 68 :: ([115] ++ ([115] ++ ([102, 48, 48, 48 + x % 10] ++ ([116, 48 + x % 3, 49, 48 + x % 10] ++ (blks x 0 (1 + x % 4) ++ ([120, 49] ++ ([119] ++ [101, 50, 48 + x % 5, 55])))))))
theorem tsg_len (x : Nat) : (tsg x).length = 18 + 12 * (1 + x % 4) := by
  unfold tsg
  simp only [List.length_append, blks_len, List.length_cons, List.length_nil]
  omega
/-- told says yes, and changes the text alone -/
theorem told_1 {μ : Mem} {x L : Nat} (hx : x < 2147483648) (hL : L < 1000) (ht : μ 19 131 = nI L) : ∃ μ10 μ', f_L_told μ (nI x) = some (1, μ') ∧ TX9 μ μ10 (tsg x) ∧ f_X4_errorPosition μ10 = some (-1, μ') := by
  have h0 : TX9 μ (va_up μ 19 (upd (μ 19) 131 0)) [] := ⟨fun i hi => mu_off _ _ hi, by rw [mu_at, pk_us]; rfl, fun j c hj => by cases hj⟩
  have mx4 : (1 : Int32) + (nI x - nI x / 4 * 4) = nI (1 + x % 4) := by
    rw [show nI x - nI x / 4 * 4 = nI (x % 4) from rem_nI (k := 4) hx (by omega) (by omega)]
    exact add_nI 1 _
  have m10 : nI x - nI x / 10 * 10 = nI (x % 10) := rem_nI (k := 10) hx (by omega) (by omega)
  have m3 : nI x - nI x / 3 * 3 = nI (x % 3) := rem_nI (k := 3) hx (by omega) (by omega)
  have m5 : nI x - nI x / 5 * 5 = nI (x % 5) := rem_nI (k := 5) hx (by omega) (by omega)
  have a48 : ∀ a : Nat, (48 : Int32) + nI a = nI (48 + a) := fun a => add_nI 48 a
  have pos : ∀ (k : Nat) (m : Mem), k < 1000 → ¬ lg_cmp (nL (k + 1), m).1 0 ≤ 0 := fun k m hk h => by
    have h' : lg_cmp (nL (k + 1)) 0 ≤ 0 := h
    rw [cle0 (by omega)] at h'
    omega
  obtain ⟨μ1, e1, p1⟩ := tx_app (c := 68) h0 (by decide) (by omega)
  obtain ⟨μ2, e2, p2⟩ := tx_says (a := 115) (b := 115) (c := 102) (e := 48) p1 (by decide) (by omega) (by omega) (by omega) (by omega)
  obtain ⟨μ3, e3, p3⟩ := tx_says (a := 48) (b := 48 + x % 10) (c := 116) (e := 48 + x % 3) p2 (by decide) (by omega) (by omega) (by omega) (by omega)
  obtain ⟨μ4, e4, p4⟩ := tx_app (c := 49) p3 (show (9 : Nat) < 120 by omega) (by omega)
  obtain ⟨μ5, e5, p5⟩ := tx_app (c := 48 + x % 10) p4 (show (10 : Nat) < 120 by omega) (by omega)
  have q5 : ([] ++ [68] ++ [115, 115, 102, 48] ++ [48, 48 + x % 10, 116, 48 + x % 3] ++ [49] ++ [48 + x % 10] : List Nat).length = 11 := rfl
  obtain ⟨μ6, e6, p6⟩ := td_blks hx (1 + x % 4) 0 (20 - 2 * (1 + x % 4)) μ5 _ p5 (by rw [q5]; omega) (by omega)
  rw [show 20 - 2 * (1 + x % 4) + 2 * (1 + x % 4) = 20 by omega] at e6
  have q6 : ([] ++ [68] ++ [115, 115, 102, 48] ++ [48, 48 + x % 10, 116, 48 + x % 3] ++ [49] ++ [48 + x % 10] ++ blks x 0 (1 + x % 4) : List Nat).length = 11 + 12 * (1 + x % 4) := by rw [List.length_append, q5, blks_len]
  obtain ⟨μ7, e7, p7⟩ := tx_says (a := 120) (b := 49) (c := 119) (e := 101) p6 (by rw [q6]; omega) (by omega) (by omega) (by omega) (by omega)
  have q7 : ([] ++ [68] ++ [115, 115, 102, 48] ++ [48, 48 + x % 10, 116, 48 + x % 3] ++ [49] ++ [48 + x % 10] ++ blks x 0 (1 + x % 4) ++ [120, 49, 119, 101] : List Nat).length = 15 + 12 * (1 + x % 4) := by
    rw [List.length_append, q6]
    show 11 + 12 * (1 + x % 4) + 4 = _
    omega
  obtain ⟨μ8, e8, p8⟩ := tx_app (c := 50) p7 (by rw [q7]; omega) (by omega)
  have q8 : ([] ++ [68] ++ [115, 115, 102, 48] ++ [48, 48 + x % 10, 116, 48 + x % 3] ++ [49] ++ [48 + x % 10] ++ blks x 0 (1 + x % 4) ++ [120, 49, 119, 101] ++ [50] : List Nat).length = 16 + 12 * (1 + x % 4) := by
    rw [List.length_append, q7]
    show 15 + 12 * (1 + x % 4) + 1 = _
    omega
  obtain ⟨μ9, e9, p9⟩ := tx_app (c := 48 + x % 5) p8 (by rw [q8]; omega) (by omega)
  have q9 : ([] ++ [68] ++ [115, 115, 102, 48] ++ [48, 48 + x % 10, 116, 48 + x % 3] ++ [49] ++ [48 + x % 10] ++ blks x 0 (1 + x % 4) ++ [120, 49, 119, 101] ++ [50] ++ [48 + x % 5] : List Nat).length = 17 + 12 * (1 + x % 4) := by
    rw [List.length_append, q8]
    show 16 + 12 * (1 + x % 4) + 1 = _
    omega
  obtain ⟨μ10, e10, p10⟩ := tx_app (c := 55) p9 (by rw [q9]; omega) (by omega)
  rw [q7] at e8
  rw [q8] at e9
  rw [q9] at e10
  -- the list as it is read
  have hlist : ([] ++ [68] ++ [115, 115, 102, 48] ++ [48, 48 + x % 10, 116, 48 + x % 3] ++ [49] ++ [48 + x % 10] ++ blks x 0 (1 + x % 4) ++ [120, 49, 119, 101] ++ [50] ++ [48 + x % 5] ++ [55] : List Nat) = 68 :: ([115] ++ ([115] ++ ([102, 48, 48, 48 + x % 10] ++ ([116, 48 + x % 3, 49, 48 + x % 10] ++ (blks x 0 (1 + x % 4) ++ ([120, 49] ++ ([119] ++ [101, 50, 48 + x % 5, 55]))))))) := by
    simp only [List.nil_append, List.cons_append, List.append_assoc]
  rw [hlist] at p10
  have p10' : TX9 μ μ10 (tsg x) := p10
  have g1 : GoT9 1 [115] := goes_one (by simp) (fun t L rest h => rdc_s h)
  have g3 : GoT9 1 [102, 48, 48, 48 + x % 10] := goes_one (by simp) (fun t L rest h => rdc_f h (by omega) (by omega) rfl (by omega) (by omega))
  have g4 : GoT9 1 [116, 48 + x % 3, 49, 48 + x % 10] := goes_one (by simp) (fun t L rest h => rdc_t h (by omega) (by omega) rfl (by omega) (by omega))
  have g5 : GoT9 1 [120, 49] := goes_one (by simp) (fun t L rest h => rdc_x h (by omega) (by omega))
  have g6 : GoT9 1 [119] := goes_one (by simp) (fun t L rest h => rdc_w h)
  have g7 : GoT9 1 [101, 50, 48 + x % 5, 55] := goes_one (by simp) (fun t L rest h => rdc_e h (by omega) (by omega) rfl)
  have gall := goes_app g1 (goes_app g1 (goes_app g3 (goes_app g4 (goes_app (goes_blks x (1 + x % 4) 0) (goes_app g5 (goes_app g6 g7))))))
  obtain ⟨t1, t2, t3⟩ := p10
  have qall : ([115] ++ ([115] ++ ([102, 48, 48, 48 + x % 10] ++ ([116, 48 + x % 3, 49, 48 + x % 10] ++ (blks x 0 (1 + x % 4) ++ ([120, 49] ++ ([119] ++ [101, 50, 48 + x % 5, 55])))))) : List Nat).length = 17 + 12 * (1 + x % 4) := by
    simp only [List.length_append, blks_len, List.length_cons, List.length_nil]
    omega
  rw [List.length_cons, qall] at t2
  obtain ⟨t', ef⟩ := goes_end gall (by omega) t2 (by rw [qall]) (by omega) (t3 0 68 rfl) (fun j c hj => by
    have := t3 (j + 1) c (by rw [List.getElem?_cons_succ]; exact hj)
    rw [show 1 + j = j + 1 by omega]
    exact this)
  have ep : f_X4_errorPosition μ10 = some (-1, va_up μ10 19 t') := by
    unfold f_X4_errorPosition
    rw [ef, Option.bind_some]
  refine ⟨μ10, va_up μ10 19 t', ?_, p10', ep⟩
  have s2 : ∀ n : Nat, fl_L_told (nI x) (n + 1) 2 μ6 0 0 1 0 0 = some (1, va_up μ10 19 t') := fun n => by
    show fb_L_told_2 (nI x) (fl_L_told (nI x) n) μ6 0 0 1 0 0 = _
    unfold fb_L_told_2
    rw [if_neg i10, show f_L_says μ6 120 49 119 101 = _ from e7, Option.bind_some, if_neg (show ¬ ((1 : Int32), μ7).1 = 0 from i10), show f_L_append ((1 : Int32), μ7).2 50 = _ from e8, Option.bind_some, if_neg (pos _ _ (by omega)), m5, a48, show f_L_append (nL (15 + 12 * (1 + x % 4) + 1), μ8).2 (nI (48 + x % 5)) = _ from e9, Option.bind_some, if_neg (pos _ _ (by omega)), show f_L_append (nL (16 + 12 * (1 + x % 4) + 1), μ9).2 55 = _ from e10, Option.bind_some, if_neg (pos _ _ (by omega)), show f_X4_errorPosition (nL (17 + 12 * (1 + x % 4) + 1), μ10).2 = _ from ep, Option.bind_some, if_pos rfl]
  have s1 : fl_L_told (nI x) 20 1 μ5 0 0 1 0 0 = some (1, va_up μ10 19 t') := by
    have e6' : fl_L_told (nI x) 20 1 μ5 0 0 1 0 0 = _ := e6
    rw [e6']
    obtain ⟨n', hn'⟩ : ∃ n', 20 - 2 * (1 + x % 4) = n' + 2 := ⟨18 - 2 * (1 + x % 4), by omega⟩
    rw [hn']
    show fb_L_told_1 (nI x) (fl_L_told (nI x) (n' + 1)) μ6 0 0 1 (nI (1 + x % 4)) 0 = _
    unfold fb_L_told_1
    rw [mx4, if_pos (Int32.le_refl _)]
    exact s2 n'
  unfold f_L_told f_X4_clearText
  rw [Option.bind_some, ht, if_neg (show ¬ (nI L, va_up μ 19 (upd (μ 19) 131 0)).1 < 0 from nI_pos (by omega)), show f_L_append (nI L, va_up μ 19 (upd (μ 19) 131 0)).2 68 = _ from e1, Option.bind_some, if_neg (pos _ _ (by decide)), show f_L_says (nL (([] : List Nat).length + 1), μ1).2 115 115 102 48 = _ from e2, Option.bind_some, if_neg (show ¬ ((1 : Int32), μ2).1 = 0 from i10), m10, m3, a48, a48, show f_L_says ((1 : Int32), μ2).2 48 (nI (48 + x % 10)) 116 (nI (48 + x % 3)) = _ from e3, Option.bind_some, if_neg (show ¬ ((1 : Int32), μ3).1 = 0 from i10), show f_L_append ((1 : Int32), μ3).2 49 = some (nL 10, μ4) from e4, Option.bind_some, if_neg (show ¬ lg_cmp (nL 10, μ4).1 0 ≤ 0 from pos 9 _ (by omega)), show f_L_append (nL 10, μ4).2 (nI (48 + x % 10)) = some (nL 11, μ5) from e5, Option.bind_some, if_neg (show ¬ lg_cmp (nL 11, μ5).1 0 ≤ 0 from pos 10 _ (by omega))]
  exact s1
