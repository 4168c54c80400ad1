/-! text: append, clearText, and the reading of it on both sides -/
theorem call_clearText {μ ν : Mem} (h : Rel μ ν) : ∃ v μ' ν', f_X4_clearText μ = some (v, μ') ∧ f_X5_clearText ν = some (v, ν') ∧ Rel μ' ν' := by
  obtain ⟨h1, h2, h3, h4, h5, h6, L, hL, t1, t2, t3⟩ := h
  refine ⟨nI L, va_up μ 19 (upd (μ 19) 131 0), va_up (rf ν 0) 0 (upd (rf ν 0 0) 9 0), ?_, ?_, ?_⟩
  · unfold f_X4_clearText
    rw [t1]
  · unfold f_X5_clearText
    have e : va_up ν 0 (upd (ν 0) 0 (0 : Int32)) = rf ν 0 := rfl
    rw [e, rf_n (by omega), t2]
  · unfold Rel
    have o : ∀ k : Nat, k ≠ 0 → rf ν 0 k = ν k := fun k hk => rf_o hk
    rw [mu_off μ _ (by omega : (0 : Nat) ≠ 19), mu_off μ _ (by omega : (2 : Nat) ≠ 19), mu_off μ _ (by omega : (20 : Nat) ≠ 19), mu_off μ _ (by omega : (21 : Nat) ≠ 19), mu_at, mu_off _ _ (by omega : (1 : Nat) ≠ 0), mu_off _ _ (by omega : (2 : Nat) ≠ 0), mu_off _ _ (by omega : (3 : Nat) ≠ 0), mu_off _ _ (by omega : (4 : Nat) ≠ 0), mu_off _ _ (by omega : (5 : Nat) ≠ 0), mu_off _ _ (by omega : (6 : Nat) ≠ 0), mu_off _ _ (by omega : (7 : Nat) ≠ 0), mu_at, pk_un (by omega : (5 : Nat) ≠ 9), pk_us, o 1 (by omega), o 2 (by omega), o 3 (by omega), o 4 (by omega), o 5 (by omega), o 6 (by omega), o 7 (by omega), rf_n (by omega)]
    have e1 : (fun i => va_up μ 19 (upd (μ 19) 131 0) (3 + i)) = fun i => if 3 + i = 19 then upd (μ 19) 131 0 else μ (3 + i) := funext fun i => rfl
    refine ⟨h1, h2, h3, h4, ?_, ?_, 0, by omega, pk_us, rfl, fun j hj => absurd hj (Nat.not_lt_zero j)⟩
    · obtain ⟨c, f, p0, p1, p5, hc, hf, hst⟩ := h5
      refine ⟨c, f, p0, p1, p5, hc, hf, fun j hj => ?_⟩
      show va_up μ 19 _ (3 + (f + j) % 14) = _ ∧ _
      rw [mu_off _ _ (by omega)]
      exact hst j hj
    · intro s hs
      have := h6 s hs
      show _ ∧ (_ ∨ _ ∧ va_up μ 19 _ (17 + s) = _ ∧ _)
      rw [mu_off μ _ (by omega : (17 + s) ≠ 19)]
      exact this
/-- only the text's rows differ -/
theorem rel_text {μ ν : Mem} {t g q z : Row} (h : Rel μ ν) (hz : Zr z) (h5 : g 5 = ν 0 5) (ht : Rtext t q (g 9)) : Rel (va_up μ 19 t) (va_up (va_up (va_up ν 7 q) 0 g) 3 z) := by
  obtain ⟨h1, h2, h3, h4, hp, h6, _⟩ := h
  unfold Rel
  rw [mu_off μ _ (by omega : (0 : Nat) ≠ 19), mu_off μ _ (by omega : (2 : Nat) ≠ 19), mu_off μ _ (by omega : (20 : Nat) ≠ 19), mu_off μ _ (by omega : (21 : Nat) ≠ 19), mu_at]
  have f3 : ∀ i, i ≠ 3 → i ≠ 0 → i ≠ 7 → va_up (va_up (va_up ν 7 q) 0 g) 3 z i = ν i := fun i a b c => by rw [mu_off _ _ a, mu_off _ _ b, mu_off _ _ c]
  have f0 : va_up (va_up (va_up ν 7 q) 0 g) 3 z 0 = g := by rw [mu_off _ _ (by omega), mu_at]
  have f7 : va_up (va_up (va_up ν 7 q) 0 g) 3 z 7 = q := by rw [mu_off _ _ (by omega), mu_off _ _ (by omega), mu_at]
  rw [f3 1 (by omega) (by omega) (by omega), f3 2 (by omega) (by omega) (by omega), f3 4 (by omega) (by omega) (by omega), f3 5 (by omega) (by omega) (by omega), f3 6 (by omega) (by omega) (by omega), f0, f7, mu_at, h5]
  refine ⟨h1, h2, h3, hz, ?_, ?_, ht⟩
  · obtain ⟨c, f, p0, p1, p5, hc, hf, hst⟩ := hp
    refine ⟨c, f, p0, p1, p5, hc, hf, fun j hj => ?_⟩
    show va_up μ 19 _ (3 + (f + j) % 14) = _ ∧ _
    rw [mu_off _ _ (by omega)]
    exact hst j hj
  · intro s hs
    have := h6 s hs
    show _ ∧ (_ ∨ _ ∧ va_up μ 19 _ (17 + s) = _ ∧ _)
    rw [mu_off μ _ (by omega : (17 + s) ≠ 19)]
    exact this
theorem call_append {μ ν : Mem} (a1 : Int32) (h : Rel μ ν) : Call [1, 2] (f_X4_append μ a1) (f_X5_append ν a1) := by
  obtain ⟨L, hL, t1, t2, t3⟩ := h.2.2.2.2.2.2
  have h4 := h.2.2.2.1
  unfold f_X4_append f_X5_append
  by_cases hr : (0 : Int32) ≤ a1 ∧ a1 ≤ 255
  · rw [X4_needRange_y hr, X5_in_y hr (by decide) (by decide), Option.bind_some, Option.bind_some, if_pos rfl, if_neg i10, t1, t2]
    by_cases h120 : L = 120
    · subst h120
      rw [if_neg (by decide), if_pos (by decide)]
      refine c_no (i := 1) h rfl rfl ?_
      show fb_X5_append_1 a1 (fl_X5_append a1 999999999) ν 2 = _
      exact ref_no (t := 2) (by decide) _
    · have q1 : nI L < (120 : Int32) := (lt_nI (b := 120) (by omega) (by omega)).mpr (by omega)
      have q2 : ¬ nI L = (120 : Int32) := fun x => h120 ((eq_nI (b := 120) (by omega) (by omega)).mp x)
      have q3 : ¬ (120 : Int32) ≤ nI L := Int32.not_le.mpr q1
      have o : ¬ oob (nI L) 120 := by rw [oob_nI (by omega)]; omega
      have e1 : nI L + 1 = nI (L + 1) := add_nI L 1
      rw [if_pos q1, if_neg q2]
      have hp : f_X3_put (μ 19) a1 = some (upd (upd (μ 19) L a1) 131 (nI (L + 1))) := by
        unfold f_X3_put
        rw [t1, if_neg q3, if_neg o, cl_nI (by omega), pk_un (by omega : (131 : Nat) ≠ L), t1, e1]
      rw [hp, Option.bind_some, mu_at, pk_us]
      refine ⟨0, nI (L + 1), _, nI (L + 1), va_up (va_up (va_up ν 7 (upd (ν 7) L a1)) 0 (upd (upd (ν 0) 0 0) 9 (nI (L + 1)))) 3 (ν 3), rfl, ?_, Or.inl ⟨rfl, ?_, rfl⟩, ?_⟩
      · show fb_X5_append_1 a1 (fl_X5_append a1 999999999) ν 0 = _
        unfold fb_X5_append_1
        rw [ref_ok]
        have r9 : rf ν 0 0 9 = nI L := by rw [rf_n (by omega), t2]
        have r7 : rf ν 0 7 = ν 7 := rf_o (by omega)
        simp only [r9, r7]
        rw [if_neg o, cl_nI (by omega), mu_off (rf ν 0) _ (by omega : (0 : Nat) ≠ 7), r9, e1, mu_at, pk_us]
        have em : va_up (va_up (rf ν 0) 7 (upd (ν 7) L a1)) 0 (upd (rf ν 0 0) 9 (nI (L + 1))) = va_up (va_up (va_up ν 7 (upd (ν 7) L a1)) 0 (upd (upd (ν 0) 0 0) 9 (nI (L + 1)))) 3 (ν 3) := by
          funext i
          unfold rf va_up
          by_cases i0 : i = 0
          · subst i0; simp
          · by_cases i7 : i = 7
            · subst i7; simp
            · by_cases i3 : i = 3
              · subst i3; simp
              · simp [i0, i7, i3]
        rw [em]
      · rw [mu_off _ _ (by omega), mu_at, pk_un (by omega), pk_us]
      · refine rel_text h h4 (by rw [pk_un (by omega), pk_un (by omega)]) ⟨L + 1, by omega, pk_us, pk_us, fun j hj => ?_⟩
        rw [pk_un (by omega)]
        by_cases e : j = L
        · subst e; rw [pk_us, pk_us]
        · rw [pk_un e, pk_un e]; exact t3 j (by omega)
  · rw [X4_needRange_n hr, X5_in_n hr (by decide) (by decide), Option.bind_some, Option.bind_some, if_neg (by decide), if_pos rfl]
    refine c_no (i := 0) h rfl rfl ?_
    show fb_X5_append_1 a1 (fl_X5_append a1 999999999) ν 1 = _
    exact ref_no (t := 1) (by decide) _
/-! the reading: the class's text row t, the reference's cell 0 as a row g -/
def NN (ν : Mem) (g r : Row) : Mem := va_up (va_up ν 0 g) 3 r
theorem NN_0 (ν : Mem) (g r : Row) : NN ν g r 0 = g := by unfold NN; rw [mu_off _ _ (by omega), mu_at]
theorem NN_3 (ν : Mem) (g r : Row) : NN ν g r 3 = r := mu_at _ _ _
theorem NN_7 (ν : Mem) (g r : Row) : NN ν g r 7 = ν 7 := by unfold NN; rw [mu_off _ _ (by omega), mu_off _ _ (by omega)]
theorem NN_u0 (ν : Mem) (g g' r : Row) : va_up (NN ν g r) 0 g' = NN ν g' r := by unfold NN; rw [mu_comm _ (by omega : (3 : Nat) ≠ 0), mu_two]
theorem NN_u3 (ν : Mem) (g r r' : Row) : va_up (NN ν g r) 3 r' = NN ν g r' := mu_two _ _ _ _
def Both (L : Nat) (w t g : Row) : Prop := L ≤ 120 ∧ t 131 = nI L ∧ g 9 = nI L ∧ ∀ j, j < L → t j = w j
def TG (L : Nat) (w t g : Row) (a : Nat) : Prop := Both L w t g ∧ a ≤ L ∧ t 132 = nI a ∧ t 133 = -1 ∧ g 10 = nI a ∧ g 11 = 1
def SB (L : Nat) (w t g : Row) : Prop := Both L w t g ∧ ∃ e, e ≤ L ∧ t 133 = nI e ∧ g 10 = nI e ∧ g 11 = 0
def Fr (g g' : Row) : Prop := ∀ j, j ≠ 10 → j ≠ 11 → g' j = g j
def Ft (t t' : Row) : Prop := ∀ k, 134 ≤ k → t' k = t k
theorem both_t {L : Nat} {w t g : Row} {k : Nat} {v : Int32} (h : Both L w t g) (hk : 132 ≤ k) : Both L w (upd t k v) g :=
  ⟨h.1, by rw [pk_un (by omega)]; exact h.2.1, h.2.2.1, fun j hj => by have := h.1; rw [pk_un (by omega)]; exact h.2.2.2 j hj⟩
theorem both_g {L : Nat} {w t g : Row} {k : Nat} {v : Int32} (h : Both L w t g) (hk : k ≠ 9) : Both L w t (upd g k v) :=
  ⟨h.1, h.2.1, by rw [pk_un (Ne.symm hk)]; exact h.2.2.1, h.2.2.2⟩
theorem sg_t {L a : Nat} {w t g : Row} {k : Nat} {v : Int32} (h : TG L w t g a) (hk : 134 ≤ k) : TG L w (upd t k v) g a :=
  ⟨both_t h.1 (by omega), h.2.1, by rw [pk_un (by omega)]; exact h.2.2.1, by rw [pk_un (by omega)]; exact h.2.2.2.1, h.2.2.2.2⟩
theorem sb_t {L : Nat} {w t g : Row} {k : Nat} {v : Int32} (h : SB L w t g) (hk : 134 ≤ k) : SB L w (upd t k v) g := by
  obtain ⟨h1, e, h2, h3, h4⟩ := h
  exact ⟨both_t h1 (by omega), e, h2, by rw [pk_un (by omega)]; exact h3, h4⟩
theorem sg_g {L a : Nat} {w t g : Row} {k : Nat} {v : Int32} (h : TG L w t g a) (hk : 12 ≤ k) : TG L w t (upd g k v) a :=
  ⟨both_g h.1 (by omega), h.2.1, h.2.2.1, h.2.2.2.1, by rw [pk_un (by omega)]; exact h.2.2.2.2.1, by rw [pk_un (by omega)]; exact h.2.2.2.2.2⟩
theorem sb_g {L : Nat} {w t g : Row} {k : Nat} {v : Int32} (h : SB L w t g) (hk : 12 ≤ k) : SB L w t (upd g k v) := by
  obtain ⟨h1, e, h2, h3, h4, h5⟩ := h
  exact ⟨both_g h1 (by omega), e, h2, h3, by rw [pk_un (by omega)]; exact h4, by rw [pk_un (by omega)]; exact h5⟩
/-- the sign that stands at a -/
def sgn (w : Row) (L a : Nat) : Int32 := if a < L then w a else -1
theorem X3_sign {L a : Nat} {w t g : Row} (h : TG L w t g a) : f_X3_nextSign t = some (sgn w L a) := by
  obtain ⟨⟨h1, h2, h3, h4⟩, h5, h6, h7, h8, h9⟩ := h
  unfold f_X3_nextSign sgn
  rw [h6, h2, if_neg (nI_pos (by omega))]
  by_cases hl : a < L
  · have o : ¬ oob (nI a) 120 := by rw [oob_nI (by omega)]; omega
    rw [if_neg (fun x => by rw [le_nI (by omega) (by omega)] at x; omega), if_neg (fun x => by rw [show (120 : Int32) = nI 120 from rfl, le_nI (by omega) (by omega)] at x; omega), if_neg o, cl_nI (by omega), h4 a hl, if_pos hl]
  · rw [if_pos ((le_nI (by omega) (by omega)).mpr (by omega)), if_neg hl]
theorem X5_here {L a : Nat} {w t g r : Row} {ν : Mem} (hw : ν 7 = w) (h : TG L w t g a) : f_X5_here (NN ν g r) = some (sgn w L a) := by
  obtain ⟨⟨h1, h2, h3, h4⟩, h5, h6, h7, h8, h9⟩ := h
  unfold f_X5_here sgn
  rw [NN_0, NN_7, h3, h8, hw]
  by_cases hl : a < L
  · have o : ¬ oob (nI a) 120 := by rw [oob_nI (by omega)]; omega
    rw [if_neg (fun x => by rw [le_nI (by omega) (by omega)] at x; omega), if_neg o, cl_nI (by omega), if_pos hl]
  · rw [if_pos ((le_nI (by omega) (by omega)).mpr (by omega)), if_neg hl]
theorem X5_here_b {L : Nat} {w t g r : Row} {ν : Mem} (h : SB L w t g) : ∃ c, f_X5_here (NN ν g r) = some c := by
  obtain ⟨⟨h1, h2, h3, h4⟩, e, h5, h6, h7, h8⟩ := h
  unfold f_X5_here
  rw [NN_0, NN_7, h3, h7]
  by_cases hl : e < L
  · have o : ¬ oob (nI e) 120 := by rw [oob_nI (by omega)]; omega
    rw [if_neg (fun x => by rw [le_nI (by omega) (by omega)] at x; omega), if_neg o]
    exact ⟨_, rfl⟩
  · rw [if_pos ((le_nI (by omega) (by omega)).mpr (by omega))]
    exact ⟨_, rfl⟩
theorem X5_take1 {g r : Row} {ν : Mem} (h : g 11 = 1) : f_X5_take (NN ν g r) 1 = some (NN ν (upd (upd g 11 1) 10 (g 10 + 1)) r) := by
  unfold f_X5_take
  rw [NN_0, h, if_neg i10, if_neg i10]
  show fb_X5_take_1 1 (fl_X5_take 1 999999999) (NN ν g r) 1 = _
  unfold fb_X5_take_1
  rw [if_pos (Or.inr rfl), NN_0, NN_u0, NN_0, pk_us, if_neg i10, pk_un (by omega), NN_u0]
theorem X5_take0 {g r : Row} {ν : Mem} : f_X5_take (NN ν g r) 0 = some (NN ν (upd (upd g 11 0) 10 (g 10 + 0)) r) := by
  have e : f_X5_take (NN ν g r) 0 = fb_X5_take_1 0 (fl_X5_take 0 999999999) (NN ν g r) 0 := by
    unfold f_X5_take
    rw [if_pos (rfl : (0 : Int32) = 0)]
    split <;> rfl
  rw [e]
  unfold fb_X5_take_1
  rw [if_pos (Or.inl rfl), NN_0, NN_u0, NN_0, pk_us, if_pos rfl, pk_un (by omega), NN_u0]
theorem X5_takeb {g r : Row} {ν : Mem} (h : g 11 = 0) (x : Int32) : f_X5_take (NN ν g r) x = some (NN ν (upd (upd g 11 0) 10 (g 10 + 0)) r) := by
  unfold f_X5_take
  rw [NN_0, h, if_pos rfl]
  show fb_X5_take_1 x (fl_X5_take x 999999999) (NN ν g r) 0 = _
  unfold fb_X5_take_1
  rw [if_pos (Or.inl rfl), NN_0, NN_u0, NN_0, pk_us, if_pos rfl, pk_un (by omega), NN_u0]
def gok (g : Row) : Row := upd (upd g 11 1) 10 (g 10 + 1)
def gno (g : Row) : Row := upd (upd g 11 0) 10 (g 10 + 0)
theorem fr_ok (g : Row) : Fr g (gok g) := fun j h1 h2 => by unfold gok; rw [pk_un h1, pk_un h2]
theorem fr_no (g : Row) : Fr g (gno g) := fun j h1 h2 => by unfold gno; rw [pk_un h1, pk_un h2]
theorem sg_ok {L a : Nat} {w t g : Row} (h : TG L w t g a) (hl : a < L) : TG L w (upd t 132 (nI (a + 1))) (gok g) (a + 1) := by
  obtain ⟨h1, h5, h6, h7, h8, h9⟩ := h
  refine ⟨both_t ⟨h1.1, h1.2.1, by rw [fr_ok g 9 (by omega) (by omega)]; exact h1.2.2.1, h1.2.2.2⟩ (by omega), hl, pk_us, by rw [pk_un (by omega)]; exact h7, ?_, ?_⟩
  · unfold gok
    rw [pk_us, h8]
    exact add_nI a 1
  · unfold gok
    rw [pk_un (by omega), pk_us]
theorem z_add (x : Int32) : x + 0 = x := Int32.add_zero x
theorem sb_no {L a : Nat} {w t g : Row} (h : TG L w t g a) : SB L w (upd t 133 (nI a)) (gno g) := by
  obtain ⟨h1, h5, h6, h7, h8, h9⟩ := h
  refine ⟨both_t ⟨h1.1, h1.2.1, by rw [fr_no g 9 (by omega) (by omega)]; exact h1.2.2.1, h1.2.2.2⟩ (by omega), a, h5, pk_us, ?_, ?_⟩
  · unfold gno
    rw [pk_us, h8, z_add]
  · unfold gno
    rw [pk_un (by omega), pk_us]
theorem tb_b {L : Nat} {w t g : Row} (h : SB L w t g) : SB L w t (gno g) := by
  obtain ⟨h1, e, h5, h6, h8, h9⟩ := h
  refine ⟨⟨h1.1, h1.2.1, by rw [fr_no g 9 (by omega) (by omega)]; exact h1.2.2.1, h1.2.2.2⟩, e, h5, h6, ?_, ?_⟩
  · unfold gno
    rw [pk_us, h8, z_add]
  · unfold gno
    rw [pk_un (by omega), pk_us]
theorem rg2 {x : Int32} {lo hi : Nat} (hh : hi < 2147483647) : (nI lo ≤ x ∧ x ≤ nI hi ∧ lo ≤ hi) ↔ ∃ v, lo ≤ v ∧ v ≤ hi ∧ x = nI v := by
  constructor
  · intro ⟨h1, h2, h3⟩
    obtain ⟨v, hv, rfl⟩ := rng_nI (n := hi) hh ⟨Int32.le_trans (nI_pos' (by omega)) h1, h2⟩
    exact ⟨v, (le_nI (by omega) (by omega)).mp h1, hv, rfl⟩
  · intro ⟨v, h1, h2, h3⟩
    rw [h3, le_nI (by omega) (by omega), le_nI (by omega) (by omega)]
    omega
/-- a digit is read -/
theorem digit_g {L a lo hi : Nat} {w t g r : Row} {ν : Mem} (hw : ν 7 = w) (h : TG L w t g a) (h1 : lo ≤ hi) (h9 : hi ≤ 9) :
    ∃ v x t' g', lo ≤ v ∧ v ≤ hi ∧ f_X3_readDigit t (nI lo) (nI hi) = some (x, t') ∧ f_X5_digit (NN ν g r) (nI lo) (nI hi) = some (nI v, NN ν g' r) ∧ Ft t t' ∧ Fr g g' ∧ ((TG L w t' g' (a + 1) ∧ x = nI v) ∨ SB L w t' g') := by
  have hs := X3_sign h
  have hh := X5_here (r := r) hw h
  have hin : f_X5_in ((sgn w L a - 48).toInt64) (nI lo).toInt64 (nI hi).toInt64 = some (b2i (decide (nI lo ≤ sgn w L a - 48 ∧ sgn w L a - 48 ≤ nI hi))) := in32 _ _ _ rfl rfl
  have h11 : g 11 = 1 := h.2.2.2.2.2
  by_cases hv : ∃ v, lo ≤ v ∧ v ≤ hi ∧ sgn w L a = nI (48 + v)
  · obtain ⟨v, v1, v2, v3⟩ := hv
    have hl : a < L := by
      by_cases hl : a < L
      · exact hl
      · unfold sgn at v3
        rw [if_neg hl] at v3
        exact absurd v3.symm (m1_ne (by omega))
    have e48 : nI (48 + v) - 48 = nI v := by
      have := sub_nI (a := 48 + v) (b := 48) (by omega)
      rw [Nat.add_sub_cancel_left] at this
      exact this
    refine ⟨v, nI v, upd t 132 (nI (a + 1)), gok g, v1, v2, ?_, ?_, fun k hk => pk_un (by omega), fr_ok g, Or.inl ⟨sg_ok h hl, rfl⟩⟩
    · unfold f_X3_readDigit
      have q1 : ¬ nI (48 + v) < 48 + nI lo := fun x => by
        rw [show (48 : Int32) + nI lo = nI (48 + lo) from add_nI 48 lo, lt_nI (by omega) (by omega)] at x
        omega
      have q2 : nI (48 + v) ≤ 48 + nI hi := by
        rw [show (48 : Int32) + nI hi = nI (48 + hi) from add_nI 48 hi, le_nI (by omega) (by omega)]
        omega
      rw [h.2.2.2.1, if_pos rfl, hs, Option.bind_some, v3, if_neg q1, if_pos q2, e48, h.2.2.1, show nI a + 1 = nI (a + 1) from add_nI a 1]
    · unfold f_X5_digit
      rw [v3, e48] at hin
      have hd : decide (nI lo ≤ nI v ∧ nI v ≤ nI hi) = true := decide_eq_true ⟨(le_nI (by omega) (by omega)).mpr v1, (le_nI (by omega) (by omega)).mpr v2⟩
      rw [hd] at hin
      rw [hh, Option.bind_some, v3, e48, hin, Option.bind_some, b2i_t, X5_take1 h11, Option.bind_some, NN_0, pk_un (by omega : (11 : Nat) ≠ 10), pk_us, if_neg i10]
      rfl
  · have hno : ¬ (nI lo ≤ sgn w L a - 48 ∧ sgn w L a - 48 ≤ nI hi) := fun x => by
      obtain ⟨v, v1, v2, v3⟩ := (rg2 (lo := lo) (by omega)).mp ⟨x.1, x.2, h1⟩
      refine hv ⟨v, v1, v2, ?_⟩
      have e : sgn w L a = nI v + 48 := by rw [← v3, Int32.sub_add_cancel]
      rw [e, show nI v + 48 = nI (v + 48) from add_nI v 48, Nat.add_comm]
    refine ⟨lo, 0, upd t 133 (nI a), gno g, Nat.le_refl _, h1, ?_, ?_, fun k hk => pk_un (by omega), fr_no g, Or.inr (sb_no h)⟩
    · unfold f_X3_readDigit
      rw [h.2.2.2.1, if_pos rfl, hs, Option.bind_some, h.2.2.1]
      by_cases q1 : sgn w L a < 48 + nI lo
      · rw [if_pos q1]
      · rw [if_neg q1]
        by_cases q2 : sgn w L a ≤ 48 + nI hi
        · exfalso
          rw [show (48 : Int32) + nI lo = nI (48 + lo) from add_nI 48 lo] at q1
          rw [show (48 : Int32) + nI hi = nI (48 + hi) from add_nI 48 hi] at q2
          obtain ⟨v, v1, v2, v3⟩ := (rg2 (lo := 48 + lo) (by omega)).mp ⟨Int32.not_lt.mp q1, q2, by omega⟩
          exact hv ⟨v - 48, by omega, by omega, by rw [v3, show 48 + (v - 48) = v by omega]⟩
        · rw [if_neg q2]
    · unfold f_X5_digit
      rw [decide_eq_false hno] at hin
      rw [hh, Option.bind_some, hin, Option.bind_some, b2i_f, X5_take0, Option.bind_some, NN_0, pk_un (by omega : (11 : Nat) ≠ 10), pk_us, if_pos rfl]
      rfl
theorem digit_b3 {L : Nat} {w t g : Row} (h : SB L w t g) (A B : Int32) : f_X3_readDigit t A B = some (0, t) := by
  obtain ⟨h1, e, h5, h6, h8, h9⟩ := h
  have := h1.1
  unfold f_X3_readDigit
  rw [h6, if_neg (m1_ne (by omega))]
theorem digit_b5 {L lo hi : Nat} {w t g r : Row} {ν : Mem} (h : SB L w t g) : f_X5_digit (NN ν g r) (nI lo) (nI hi) = some (nI lo, NN ν (gno g) r) := by
  obtain ⟨c, hc⟩ := X5_here_b (r := r) (ν := ν) h
  obtain ⟨h1, e, h5, h6, h8, h9⟩ := h
  have hin : ∃ x, f_X5_in ((c - 48).toInt64) (nI lo).toInt64 (nI hi).toInt64 = some x := ⟨_, X5_in _ _ _⟩
  obtain ⟨x, hx⟩ := hin
  unfold f_X5_digit
  rw [hc, Option.bind_some, hx, Option.bind_some, X5_takeb h9, Option.bind_some, NN_0, pk_un (by omega : (11 : Nat) ≠ 10), pk_us, if_pos rfl]
  rfl
theorem ft_tr {a b c : Row} (h1 : Ft a b) (h2 : Ft b c) : Ft a c := fun k hk => (h2 k hk).trans (h1 k hk)
theorem fr_tr {a b c : Row} (h1 : Fr a b) (h2 : Fr b c) : Fr a c := fun k hk h => (h2 k hk h).trans (h1 k hk h)
/-- a number of two digits is read -/
theorem two5 {lo hi u v : Nat} {ν M1 M2 : Mem} (hlo : lo < 100) (hhi : hi < 100) (hu : u ≤ 9) (h1 : f_X5_digit ν (nI (lo / 10)) (nI (hi / 10)) = some (nI u, M1)) (h2 : f_X5_digit M1 (nI (if u = lo / 10 then lo % 10 else 0)) (nI (if u = hi / 10 then hi % 10 else 9)) = some (nI v, M2)) : f_X5_two ν (nI lo) (nI hi) = some (nI (10 * u + v), M2) := by
  have dl : nI lo / 10 = nI (lo / 10) := pk_div (d := 10) (by omega) (by omega) (by omega)
  have dh : nI hi / 10 = nI (hi / 10) := pk_div (d := 10) (by omega) (by omega) (by omega)
  have ml : nI lo - nI lo / 10 * 10 = nI (lo % 10) := pk_rem (d := 10) (by omega) (by omega) (by omega)
  have mh : nI hi - nI hi / 10 * 10 = nI (hi % 10) := pk_rem (d := 10) (by omega) (by omega) (by omega)
  have e10 : (10 : Int32) * nI u = nI (10 * u) := mul_nI 10 u
  have body : ∀ T, T = nI (if u = lo / 10 then lo % 10 else 0) → fl_X5_two (nI lo) (nI hi) FU M1 T ((10 : Int32) * nI u) (nI u) = some (nI (10 * u + v), M2) := by
    intro T hT
    show fb_X5_two_1 (nI lo) (nI hi) (fl_X5_two (nI lo) (nI hi) 999999999) M1 T (10 * nI u) (nI u) = _
    unfold fb_X5_two_1
    rw [mh, dh, e10, hT]
    by_cases hc : u = hi / 10
    · rw [if_pos (congrArg nI hc)]
      rw [if_pos hc] at h2
      rw [h2, Option.bind_some]
      show some (nI (10 * u) + nI v, M2) = _
      rw [add_nI]
    · rw [if_neg (fun x => hc ((eq_nI (by omega) (by omega)).mp x))]
      rw [if_neg hc] at h2
      rw [show (9 : Int32) = nI 9 from rfl, h2, Option.bind_some]
      show some (nI (10 * u) + nI v, M2) = _
      rw [add_nI]
  unfold f_X5_two
  rw [ml, dl, dh, h1, Option.bind_some]
  by_cases hc : u = lo / 10
  · rw [if_pos (congrArg nI hc)]
    exact body _ (by rw [if_pos hc])
  · rw [if_neg (fun x => hc ((eq_nI (by omega) (by omega)).mp x))]
    exact body _ (by rw [if_neg hc]; rfl)
theorem two3 {lo hi u : Nat} {t t1 : Row} (hlo : lo < 100) (hhi : hi < 100) (hu1 : lo / 10 ≤ u) (hu2 : u ≤ hi / 10) (h1 : f_X3_readDigit t (nI (lo / 10)) (nI (hi / 10)) = some (nI u, t1)) : f_X3_readNumber t (nI lo) (nI hi) = (f_X3_readDigit t1 (nI (if u = lo / 10 then lo % 10 else 0)) (nI (if u = hi / 10 then hi % 10 else 9))).bind fun r3 => some (10 * nI u + r3.1, r3.2) := by
  have dl : nI lo / 10 = nI (lo / 10) := pk_div (d := 10) (by omega) (by omega) (by omega)
  have dh : nI hi / 10 = nI (hi / 10) := pk_div (d := 10) (by omega) (by omega) (by omega)
  have e10 : (10 : Int32) * nI u = nI (10 * u) := mul_nI 10 u
  have el : (if (0 : Int32) < nI lo - 10 * nI u then nI lo - 10 * nI u else 0) = nI (if u = lo / 10 then lo % 10 else 0) := by
    rw [e10]
    by_cases hc : u = lo / 10
    · rw [if_pos hc, sub_nI (by omega), show lo - 10 * u = lo % 10 by omega]
      by_cases h0 : lo % 10 = 0
      · rw [h0, if_neg (by decide)]; rfl
      · rw [if_pos (show (0 : Int32) < nI (lo % 10) from (lt_nI (a := 0) (b := lo % 10) (by omega) (by omega)).mpr (by omega))]
    · rw [if_neg hc, if_neg (fun x => Int32.lt_irrefl (Int32.lt_trans x (pk_sneg (by omega) (by omega))))]
      rfl
  have eh : (if nI hi - 10 * nI u < (9 : Int32) then nI hi - 10 * nI u else 9) = nI (if u = hi / 10 then hi % 10 else 9) := by
    rw [e10, sub_nI (by omega)]
    by_cases hc : u = hi / 10
    · rw [if_pos hc, show hi - 10 * u = hi % 10 by omega]
      by_cases h0 : hi % 10 = 9
      · rw [h0, if_neg (by decide)]; rfl
      · rw [if_pos (show nI (hi % 10) < (9 : Int32) from (lt_nI (a := hi % 10) (b := 9) (by omega) (by omega)).mpr (by omega))]
    · rw [if_neg hc, if_neg (fun x => by rw [show (9 : Int32) = nI 9 from rfl, lt_nI (by omega) (by omega)] at x; omega)]
      rfl
  unfold f_X3_readNumber
  rw [dl, dh, h1, Option.bind_some]
  show (f_X3_readDigit t1 (if (0 : Int32) < nI lo - 10 * nI u then nI lo - 10 * nI u else 0) (if nI hi - 10 * nI u < (9 : Int32) then nI hi - 10 * nI u else 9)).bind _ = _
  rw [el, eh]
theorem two_b {L lo hi : Nat} {w t g r : Row} {ν : Mem} (h : SB L w t g) (hl : lo ≤ hi) (hhi : hi < 100) :
    ∃ v x g', lo ≤ v ∧ v ≤ hi ∧ f_X3_readNumber t (nI lo) (nI hi) = some (x, t) ∧ f_X5_two (NN ν g r) (nI lo) (nI hi) = some (nI v, NN ν g' r) ∧ Fr g g' ∧ SB L w t g' := by
  have h1 := digit_b5 (lo := lo / 10) (hi := hi / 10) (r := r) (ν := ν) h
  have hb := tb_b h
  have h2 := digit_b5 (lo := if lo / 10 = lo / 10 then lo % 10 else 0) (hi := if lo / 10 = hi / 10 then hi % 10 else 9) (r := r) (ν := ν) hb
  refine ⟨10 * (lo / 10) + (if lo / 10 = lo / 10 then lo % 10 else 0), 10 * 0 + 0, gno (gno g), ?_, ?_, ?_, two5 (by omega) hhi (by omega) h1 h2, fr_tr (fr_no g) (fr_no _), tb_b hb⟩
  · rw [if_pos rfl]; omega
  · rw [if_pos rfl]; omega
  · unfold f_X3_readNumber
    rw [digit_b3 h, Option.bind_some, digit_b3 h, Option.bind_some]
theorem two_g {L a lo hi : Nat} {w t g r : Row} {ν : Mem} (hw : ν 7 = w) (h : TG L w t g a) (hl : lo ≤ hi) (hhi : hi < 100) :
    ∃ v x t' g', lo ≤ v ∧ v ≤ hi ∧ f_X3_readNumber t (nI lo) (nI hi) = some (x, t') ∧ f_X5_two (NN ν g r) (nI lo) (nI hi) = some (nI v, NN ν g' r) ∧ Ft t t' ∧ Fr g g' ∧ ((TG L w t' g' (a + 2) ∧ x = nI v) ∨ SB L w t' g') := by
  obtain ⟨u, x, t1, g1, u1, u2, d3, d5, f1, f2, hc⟩ := digit_g (r := r) hw h (show lo / 10 ≤ hi / 10 from Nat.div_le_div_right hl) (by omega)
  rcases hc with ⟨hg, rfl⟩ | hb
  · have hlh : (if u = lo / 10 then lo % 10 else 0) ≤ (if u = hi / 10 then hi % 10 else 9) := by
      by_cases c1 : u = lo / 10
      · rw [if_pos c1]
        by_cases c2 : u = hi / 10
        · rw [if_pos c2]; omega
        · rw [if_neg c2]; omega
      · rw [if_neg c1]; omega
    have hh9 : (if u = hi / 10 then hi % 10 else 9) ≤ 9 := by
      by_cases c2 : u = hi / 10
      · rw [if_pos c2]; omega
      · rw [if_neg c2]; omega
    obtain ⟨v, y, t2, g2, v1, v2, e3, e5, f3, f4, hc2⟩ := digit_g (r := r) hw hg hlh hh9
    have k1 : lo ≤ 10 * u + v := by
      by_cases c1 : u = lo / 10
      · rw [if_pos c1] at v1; omega
      · omega
    have k2 : 10 * u + v ≤ hi := by
      by_cases c2 : u = hi / 10
      · rw [if_pos c2] at v2; omega
      · omega
    refine ⟨10 * u + v, 10 * nI u + y, t2, g2, k1, k2, ?_, two5 (by omega) hhi (by omega) d5 e5, ft_tr f1 f3, fr_tr f2 f4, ?_⟩
    · rw [two3 (by omega) hhi u1 u2 d3, e3, Option.bind_some]
    · rcases hc2 with ⟨hg2, rfl⟩ | hb2
      · refine Or.inl ⟨hg2, ?_⟩
        rw [show (10 : Int32) * nI u = nI (10 * u) from mul_nI 10 u, add_nI]
      · exact Or.inr hb2
  · have hb2 := tb_b hb
    have h2 := digit_b5 (lo := if u = lo / 10 then lo % 10 else 0) (hi := if u = hi / 10 then hi % 10 else 9) (r := r) (ν := ν) hb
    refine ⟨10 * u + (if u = lo / 10 then lo % 10 else 0), 10 * x + 0, t1, gno g1, ?_, ?_, ?_, two5 (by omega) hhi (by omega) d5 h2, f1, fr_tr f2 (fr_no _), Or.inr hb2⟩
    · by_cases c1 : u = lo / 10
      · rw [if_pos c1]; omega
      · omega
    · by_cases c1 : u = lo / 10
      · rw [if_pos c1]; omega
      · rw [if_neg c1]; omega
    · unfold f_X3_readNumber
      have dl : nI lo / 10 = nI (lo / 10) := pk_div (d := 10) (by omega) (by omega) (by omega)
      have dh : nI hi / 10 = nI (hi / 10) := pk_div (d := 10) (by omega) (by omega) (by omega)
      rw [dl, dh, d3, Option.bind_some, digit_b3 hb, Option.bind_some]
