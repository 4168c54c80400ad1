/-! one command; the whole text; errorPosition and load -/
theorem ob2 {α β : Type} (x : Option (α × β)) : (x.bind fun r => some (r.1, r.2)) = x := by cases x <;> rfl
theorem ob1 {α : Type} (x : Option α) : (x.bind fun r => some r) = x := by cases x <;> rfl
theorem sb_t2 {L : Nat} {w t g : Row} {v : Int32} (h : SB L w t g) : SB L w (upd t 132 v) g := by
  obtain ⟨h1, e, h2, h3, h4⟩ := h
  exact ⟨both_t h1 (by omega), e, h2, by rw [pk_un (by omega)]; exact h3, h4⟩
theorem gok_11 (g : Row) : gok g 11 = 1 := by unfold gok; rw [pk_un (by omega), pk_us]
theorem gno_11 (g : Row) : gno g 11 = 0 := by unfold gno; rw [pk_un (by omega), pk_us]
theorem fl_rc1 {g r : Row} {ν : Mem} (h : g 11 = 1) (c : Int32) : fl_X5_readCommand FU 1 (NN ν g r) 1 c = if c = 100 then f_X5_readDays (NN ν (gok g) r) else if c = 101 then f_X5_readSet (NN ν (gok g) r) else if c = 115 then (if (4 : Int32) ≤ r 196 then fl_X5_readCommand 999999999 2 (NN ν (gok g) r) 0 0 else fl_X5_readCommand 999999999 2 (NN ν (gok g) r) 1 0) else if c = 119 then ((f_X5_beginWinter r).bind fun r23 => some (r23.1, NN ν (gok g) r23.2)) else f_X5_readAtSite (NN ν (gok g) r) c := by
  show fb_X5_readCommand_1 (fl_X5_readCommand 999999999) (NN ν g r) 1 c = _
  unfold fb_X5_readCommand_1
  rw [X5_take1 h, Option.bind_some]
  have e : upd (upd g 11 1) 10 (g 10 + 1) = gok g := rfl
  rw [e, NN_0, gok_11, if_neg i10, NN_3, ob2, ob2, ob2]
  simp only [NN_u3]
  rfl
theorem fl_rc0 {g r : Row} {ν : Mem} (c : Int32) : fl_X5_readCommand FU 1 (NN ν g r) 0 c = some (0, NN ν (gno g) r) := by
  show fb_X5_readCommand_1 (fl_X5_readCommand 999999999) (NN ν g r) 0 c = _
  unfold fb_X5_readCommand_1
  rw [X5_take0, Option.bind_some]
  have e : upd (upd g 11 0) 10 (g 10 + 0) = gno g := rfl
  rw [e, NN_0, gno_11, if_pos rfl]
theorem rd_cmd {L a d : Nat} {w t g r : Row} {ν : Mem} (hw : ν 7 = w) (h : TG L w t g a) (hl : a < L) (hg : gd 9999 d r) : RC L w ν r g a (f_X3_readCommand t) (f_X5_readCommand (NN ν g r)) := by
  obtain ⟨c, hc⟩ : ∃ c, c = sgn w L a := ⟨_, rfl⟩
  have hs := X3_sign h
  have hh := X5_here (r := r) hw h
  rw [← hc] at hs hh
  have hB := cB_sg (c := c) h hl
  have h11 := h.2.2.2.2.2
  have e1 : (upd (upd (upd (upd t 134 c) 135 0) 136 0) 137 0) 132 + 1 = nI (a + 1) := by
    rw [pk_un (by omega), pk_un (by omega), pk_un (by omega), pk_un (by omega), h.2.2.1]
    exact add_nI a 1
  have hX : f_X3_readCommand t = if c = 100 then ((f_X3_readTemperature (cB t c a)).bind fun r4 => (f_X3_readNumber (upd r4.2 135 r4.1) 0 30).bind fun r6 => (f_X3_readNumber (upd r6.2 136 r6.1) 1 60).bind fun r8 => some (upd r8.2 137 r8.1)) else if c = 101 then ((f_X3_readDigit (cB t c a) 0 2).bind fun r11 => (f_X3_readNumber (upd r11.2 135 r11.1) 0 50).bind fun r13 => some (upd r13.2 136 r13.1)) else if c = 102 then ((f_X3_readDigit (cB t c a) 0 3).bind fun r16 => (f_X3_readNumber (upd r16.2 135 r16.1) 0 20).bind fun r18 => some (upd r18.2 136 r18.1)) else if c = 112 then ((f_X3_readDigit (cB t c a) 0 3).bind fun r21 => (f_X3_readNumber (upd r21.2 135 r21.1) 0 29).bind fun r23 => some (upd r23.2 136 r23.1)) else if c = 115 then some (cB t c a) else if c = 116 then ((f_X3_readDigit (cB t c a) 0 3).bind fun r27 => (f_X3_readNumber (upd r27.2 135 r27.1) 1 30).bind fun r29 => some (upd r29.2 136 r29.1)) else if c = 119 then some (cB t c a) else if c = 120 then ((f_X3_readDigit (cB t c a) 0 3).bind fun r33 => some (upd r33.2 135 r33.1)) else some (upd (cB t c a) 133 (cB t c a 132 - 1)) := by
    unfold f_X3_readCommand
    rw [hs, Option.bind_some, e1]
    rfl
  have hY : f_X5_readCommand (NN ν g r) = if c = 115 then fl_X5_readCommand FU 1 (NN ν g r) 1 c else if c = 116 then fl_X5_readCommand FU 1 (NN ν g r) 1 c else if c = 112 then fl_X5_readCommand FU 1 (NN ν g r) 1 c else if c = 102 then fl_X5_readCommand FU 1 (NN ν g r) 1 c else if c = 120 then fl_X5_readCommand FU 1 (NN ν g r) 1 c else if c = 100 then fl_X5_readCommand FU 1 (NN ν g r) 1 c else if c = 101 then fl_X5_readCommand FU 1 (NN ν g r) 1 c else if c = 119 then fl_X5_readCommand FU 1 (NN ν g r) 1 c else fl_X5_readCommand FU 1 (NN ν g r) 0 c := by
    unfold f_X5_readCommand
    rw [hh, Option.bind_some]
  rw [hX, hY, fl_rc1 h11, fl_rc0]
  clear hX hY e1 hs hh
  by_cases c1 : c = 100
  · subst c1
    rw [if_pos rfl, if_neg (by decide), if_neg (by decide), if_neg (by decide), if_neg (by decide), if_neg (by decide), if_pos rfl, if_pos rfl]
    exact rc_days hw hB hg (fr_ok g) rfl
  by_cases c2 : c = 101
  · subst c2
    rw [if_neg (by decide), if_pos rfl, if_neg (by decide), if_neg (by decide), if_neg (by decide), if_neg (by decide), if_neg (by decide), if_neg (by decide), if_pos rfl, if_neg (by decide), if_pos rfl]
    exact rc_set hw hB hg (fr_ok g) rfl rfl
  by_cases c3 : c = 102
  · subst c3
    rw [if_neg (by decide), if_neg (by decide), if_pos rfl, if_neg (by decide), if_neg (by decide), if_neg (by decide), if_pos rfl, if_neg (by decide), if_neg (by decide), if_neg (by decide), if_neg (by decide)]
    exact rc_fence hw hB hg (fr_ok g) rfl rfl
  by_cases c4 : c = 112
  · subst c4
    rw [if_neg (by decide), if_neg (by decide), if_neg (by decide), if_pos rfl, if_neg (by decide), if_neg (by decide), if_pos rfl, if_neg (by decide), if_neg (by decide), if_neg (by decide), if_neg (by decide)]
    exact rc_pipe hw hB hg (fr_ok g) rfl rfl
  by_cases c5 : c = 115
  · subst c5
    rw [if_neg (by decide), if_neg (by decide), if_neg (by decide), if_neg (by decide), if_pos rfl, if_pos rfl, if_neg (by decide), if_neg (by decide), if_pos rfl]
    have hfl : ∀ x, fl_X5_readCommand 999999999 2 (NN ν (gok g) r) x 0 = (f_X5_goes (NN ν (gok g) r) x).bind fun r8 => if r8.1 = 0 then some ((0 : Int32), r8.2) else (f_X5_addSite (r8.2 3)).bind fun r11 => some (r11.1, va_up r8.2 3 r11.2) := fun x => rfl
    rcases site_cases hg with ⟨hl, h4⟩ | ⟨hd, m, hm, h4⟩
    · rw [h4, if_pos (by decide), hfl]
      exact rc_fin f_X5_addSite hg (Nat.lt_succ_self a) rfl (fr_ok g) rfl (Or.inl ⟨hB, Or.inl ⟨3, hl, rfl⟩⟩)
    · rw [h4, if_neg (fun x => by rw [show (4 : Int32) = nI 4 from rfl, le_nI (by omega) (by omega)] at x; omega), hfl]
      exact rc_fin f_X5_addSite hg (Nat.lt_succ_self a) rfl (fr_ok g) rfl (Or.inl ⟨hB, Or.inr ⟨hd, rfl⟩⟩)
  by_cases c6 : c = 116
  · subst c6
    rw [if_neg (by decide), if_neg (by decide), if_neg (by decide), if_neg (by decide), if_neg (by decide), if_pos rfl, if_neg (by decide), if_pos rfl, if_neg (by decide), if_neg (by decide), if_neg (by decide), if_neg (by decide)]
    exact rc_tube hw hB hg (fr_ok g) rfl rfl
  by_cases c7 : c = 119
  · subst c7
    rw [if_neg (by decide), if_neg (by decide), if_neg (by decide), if_neg (by decide), if_neg (by decide), if_neg (by decide), if_pos rfl, if_neg (by decide), if_neg (by decide), if_neg (by decide), if_neg (by decide), if_neg (by decide), if_neg (by decide), if_neg (by decide), if_pos rfl, if_neg (by decide), if_neg (by decide), if_neg (by decide), if_pos rfl]
    obtain ⟨v, r', _, h2, h3, h4, d', h5⟩ := winter_done hg
    refine ⟨_, v, gok g, r', d', rfl, by rw [h3, Option.bind_some], h5, fun j q1 q2 q3 => fr_ok g j q1 q2, Or.inl ⟨a + 1, v, Nat.lt_succ_self a, hB, h2, ?_⟩⟩
    rw [if_neg (nn_m1 h4), z_add]
    exact fr_ok g 12 (by omega) (by omega)
  by_cases c8 : c = 120
  · subst c8
    rw [if_neg (by decide), if_neg (by decide), if_neg (by decide), if_neg (by decide), if_neg (by decide), if_neg (by decide), if_neg (by decide), if_pos rfl, if_neg (by decide), if_neg (by decide), if_neg (by decide), if_neg (by decide), if_pos rfl, if_neg (by decide), if_neg (by decide), if_neg (by decide), if_neg (by decide)]
    exact rc_shovel hw hB hg (fr_ok g) rfl rfl rfl
  rw [if_neg c1, if_neg c2, if_neg c3, if_neg c4, if_neg c5, if_neg c6, if_neg c7, if_neg c8, if_neg c5, if_neg c6, if_neg c4, if_neg c3, if_neg c8, if_neg c1, if_neg c2, if_neg c7]
  have e9 : cB t c a 132 - 1 = nI a := nI_m1 a
  refine ⟨_, 0, gno g, r, d, rfl, rfl, hg, fun j q1 q2 q3 => fr_no g j q1 q2, Or.inr ?_⟩
  rw [e9]
  unfold cB
  rw [upd_comm _ (by omega : (132 : Nat) ≠ 133)]
  exact sb_t2 (sb_no (sg_t (sg_t (sg_t (sg_t h (by omega)) (by omega)) (by omega)) (by omega)))
theorem hasC_g {L a : Nat} {w t g : Row} (h : TG L w t g a) (hl : a < L) : f_X3_hasCommand t = some 1 := by
  have := h.1.1
  unfold f_X3_hasCommand
  rw [h.2.2.2.1, if_pos rfl, h.1.2.1, h.2.2.1, if_neg (fun x => by rw [le_nI (by omega) (by omega)] at x; omega)]
theorem hasC_e {L a : Nat} {w t g : Row} (h : TG L w t g a) (hl : a = L) : f_X3_hasCommand t = some 0 := by
  have := h.1.1
  unfold f_X3_hasCommand
  rw [h.2.2.2.1, if_pos rfl, h.1.2.1, h.2.2.1, if_pos ((le_nI (by omega) (by omega)).mpr (by omega))]
theorem hasC_b {L : Nat} {w t g : Row} (h : SB L w t g) : f_X3_hasCommand t = some 0 := by
  obtain ⟨b1, e, b2, b3, b4, b5⟩ := h
  have := b1.1
  unfold f_X3_hasCommand
  rw [b3, if_neg (m1_ne (by omega))]
theorem ra_b {L n : Nat} {w t g r : Row} {ν : Mem} (h : SB L w t g) : fl_X5_readAll (n + 2) 1 (NN ν g r) = some (g 10, NN ν g r) := by
  obtain ⟨b1, e, b2, b3, b4, b5⟩ := h
  show fb_X5_readAll_1 (fl_X5_readAll (n + 1)) (NN ν g r) = _
  unfold fb_X5_readAll_1
  rw [NN_0, b5, if_pos rfl]
  show fb_X5_readAll_2 (fl_X5_readAll n) (NN ν g r) = _
  unfold fb_X5_readAll_2
  rw [NN_0, b5, if_pos rfl]
theorem ra_e {L n a : Nat} {w t g r : Row} {ν : Mem} (h : TG L w t g a) (hl : a = L) : fl_X5_readAll (n + 2) 1 (NN ν g r) = some (-1, NN ν g r) := by
  have := h.1.1
  show fb_X5_readAll_1 (fl_X5_readAll (n + 1)) (NN ν g r) = _
  unfold fb_X5_readAll_1
  rw [NN_0, h.2.2.2.2.2, if_neg i10, h.1.2.2.1, h.2.2.2.2.1, if_pos ((le_nI (by omega) (by omega)).mpr (by omega))]
  show fb_X5_readAll_2 (fl_X5_readAll n) (NN ν g r) = _
  unfold fb_X5_readAll_2
  rw [NN_0, h.2.2.2.2.2, if_neg i10]
theorem ra_g {L n a : Nat} {w t g r : Row} {ν : Mem} (h : TG L w t g a) (hl : a < L) : fl_X5_readAll (n + 1) 1 (NN ν g r) = (f_X5_readCommand (NN ν g r)).bind fun r12 => fl_X5_readAll n 1 r12.2 := by
  have := h.1.1
  show fb_X5_readAll_1 (fl_X5_readAll n) (NN ν g r) = _
  unfold fb_X5_readAll_1
  rw [NN_0, h.2.2.2.2.2, if_neg i10, h.1.2.2.1, h.2.2.2.2.1, if_neg (fun x => by rw [le_nI (by omega) (by omega)] at x; omega)]
theorem fs_tr {a b c : Row} (h1 : Fs a b) (h2 : Fs b c) : Fs a c := fun j x y z => (h2 j x y z).trans (h1 j x y z)
theorem fs_rf (a : Row) : Fs a a := fun _ _ _ _ => rfl
theorem fe_b {L n : Nat} {w t g : Row} {v : Int32} (h : SB L w t g) : fl_X3_findError (n + 1) t v = some (g 10, t) := by
  have h2 := hasC_b h
  obtain ⟨b1, e, b2, b3, b4, b5⟩ := h
  show fb_X3_findError_1 (fl_X3_findError n) t v = _
  unfold fb_X3_findError_1
  rw [h2, Option.bind_some, if_pos rfl, b3, b4]
  split <;> rfl
theorem fe_l {L : Nat} {w : Row} {ν : Mem} (hw : ν 7 = w) : ∀ m a i n n' d (t g r : Row), L ≤ a + m → TG L w t g a → i < a → gd 9999 d r → m < n → m + 1 < n' →
    ∃ e t' g' r' d', fl_X3_findError n t (nI i) = some (e, t') ∧ fl_X5_readAll n' 1 (NN ν g r) = some (e, NN ν g' r') ∧ gd 9999 d' r' ∧ Fs g g' ∧ Both L w t' g'
  | 0, a, i, n + 1, n' + 2, d, t, g, r, hm, h, hi, hg, _, _ => by
    have e : a = L := by have := h.2.1; omega
    have h120 := h.1.1
    have ni : ¬ (120 : Int32) ≤ nI i := fun x => by rw [show (120 : Int32) = nI 120 from rfl, le_nI (by omega) (by omega)] at x; omega
    refine ⟨-1, t, g, r, d, ?_, ra_e h e, hg, fs_rf g, h.1⟩
    show fb_X3_findError_1 (fl_X3_findError n) t (nI i) = _
    unfold fb_X3_findError_1
    rw [if_neg ni, hasC_e h e, Option.bind_some, if_pos rfl, h.2.2.2.1]
  | m + 1, a, i, n + 1, n' + 1, d, t, g, r, hm, h, hi, hg, hn, hn' => by
    have haL := h.2.1
    have h120 := h.1.1
    have ni : ¬ (120 : Int32) ≤ nI i := fun x => by rw [show (120 : Int32) = nI 120 from rfl, le_nI (by omega) (by omega)] at x; omega
    by_cases e : a = L
    · obtain ⟨n2, rfl⟩ : ∃ n2, n' = n2 + 1 := ⟨n' - 1, by omega⟩
      refine ⟨-1, t, g, r, d, ?_, ra_e h e, hg, fs_rf g, h.1⟩
      show fb_X3_findError_1 (fl_X3_findError n) t (nI i) = _
      unfold fb_X3_findError_1
      rw [if_neg ni, hasC_e h e, Option.bind_some, if_pos rfl, h.2.2.2.1]
    · have hl : a < L := by omega
      have e1 : nI i + 1 = nI (i + 1) := add_nI i 1
      obtain ⟨t', u, g', r', d', hX, hY, hg', hf, hc⟩ := rd_cmd hw h hl hg
      have hXl : fl_X3_findError (n + 1) t (nI i) = fl_X3_findError n t' (nI (i + 1)) := by
        show fb_X3_findError_1 (fl_X3_findError n) t (nI i) = _
        unfold fb_X3_findError_1
        rw [if_neg ni, hasC_g h hl, Option.bind_some, if_neg i10, hX, Option.bind_some, e1]
      have hYl : fl_X5_readAll (n' + 1) 1 (NN ν g r) = fl_X5_readAll n' 1 (NN ν g' r') := by
        rw [ra_g h hl, hY, Option.bind_some]
      rw [hXl, hYl]
      rcases hc with ⟨a', v, ha, hs, _, _⟩ | hb
      · obtain ⟨e, t2, g2, r2, d2, k1, k2, k3, k4, k5⟩ := fe_l hw m a' (i + 1) n n' d' t' g' r' (by omega) hs (by omega) hg' (by omega) (by omega)
        exact ⟨e, t2, g2, r2, d2, k1, k2, k3, fs_tr hf k4, k5⟩
      · obtain ⟨n2, rfl⟩ : ∃ n2, n' = n2 + 2 := ⟨n' - 2, by omega⟩
        obtain ⟨n3, rfl⟩ : ∃ n3, n = n3 + 1 := ⟨n - 1, by omega⟩
        exact ⟨g' 10, t', g', r', d', fe_b hb, ra_b hb, hg', hf, hb.1⟩
/-- how both begin -/
theorem rd_start {L : Nat} {t : Row} {ν : Mem} (hL : L ≤ 120) (h1 : t 131 = nI L) (h9 : ν 0 9 = nI L) (ht : ∀ j, j < L → t j = ν 7 j) (hz : Zr (ν 3)) :
    ∃ t1 g1, f_X3_startReading t = some t1 ∧ f_X5_readAll ν = fl_X5_readAll FU 1 (NN ν g1 frow) ∧ Fs (ν 0) g1 ∧ g1 12 = 0 ∧ (TG L (ν 7) t1 g1 1 ∨ SB L (ν 7) t1 g1) := by
  have hS : TG L (ν 7) (upd (upd t 132 0) 133 (-1)) (upd (upd (upd (ν 0) 10 0) 11 1) 12 0) 0 := by
    refine ⟨⟨hL, ?_, ?_, fun j hj => ?_⟩, Nat.zero_le _, ?_, pk_us, ?_, ?_⟩
    · rw [pk_un (by omega), pk_un (by omega)]; exact h1
    · rw [pk_un (by omega), pk_un (by omega), pk_un (by omega)]; exact h9
    · rw [pk_un (by omega), pk_un (by omega)]; exact ht j hj
    · rw [pk_un (by omega), pk_us]; rfl
    · rw [pk_un (by omega), pk_un (by omega), pk_us]; rfl
    · rw [pk_un (by omega), pk_us]
  have hs := X3_sign hS
  have hh := X5_here (r := frow) (ν := ν) rfl hS
  have hm : va_up (va_up (va_up (va_up ν 0 (upd (ν 0) 10 (0 : Int32))) 0 (upd ((va_up ν 0 (upd (ν 0) 10 (0 : Int32))) 0) 11 (1 : Int32))) 0 (upd ((va_up (va_up ν 0 (upd (ν 0) 10 (0 : Int32))) 0 (upd ((va_up ν 0 (upd (ν 0) 10 (0 : Int32))) 0) 11 (1 : Int32))) 0) 12 (0 : Int32))) 3 frow = NN ν (upd (upd (upd (ν 0) 10 0) 11 1) 12 0) frow := by
    unfold NN
    rw [mu_at, mu_two, mu_at, mu_two]
  have h3 : f_X5_fresh ((va_up (va_up (va_up ν 0 (upd (ν 0) 10 (0 : Int32))) 0 (upd ((va_up ν 0 (upd (ν 0) 10 (0 : Int32))) 0) 11 (1 : Int32))) 0 (upd ((va_up (va_up ν 0 (upd (ν 0) 10 (0 : Int32))) 0 (upd ((va_up ν 0 (upd (ν 0) 10 (0 : Int32))) 0) 11 (1 : Int32))) 0) 12 (0 : Int32))) 3) = some frow := by
    rw [mu_off _ _ (by omega), mu_off _ _ (by omega), mu_off _ _ (by omega)]
    exact X5_fresh hz
  by_cases hc : sgn (ν 7) L 0 = 68
  · have hl : 0 < L := by
      by_cases hl : 0 < L
      · exact hl
      · unfold sgn at hc
        rw [if_neg hl] at hc
        exact absurd hc (by decide)
    refine ⟨_, gok (upd (upd (upd (ν 0) 10 0) 11 1) 12 0), ?_, ?_, ?_, ?_, Or.inl (sg_ok hS hl)⟩
    · unfold f_X3_startReading
      rw [hs, Option.bind_some, if_pos hc]
      rfl
    · unfold f_X5_readAll
      rw [h3, Option.bind_some, hm, hh, Option.bind_some, if_pos hc, X5_take1 hS.2.2.2.2.2, Option.bind_some]
      rfl
    · intro j q1 q2 q3
      rw [fr_ok _ j q1 q2, pk_un q3, pk_un q2, pk_un q1]
    · rw [fr_ok _ 12 (by omega) (by omega), pk_us]
  · refine ⟨_, gno (upd (upd (upd (ν 0) 10 0) 11 1) 12 0), ?_, ?_, ?_, ?_, Or.inr (sb_no hS)⟩
    · unfold f_X3_startReading
      rw [hs, Option.bind_some, if_neg hc]
      rfl
    · unfold f_X5_readAll
      rw [h3, Option.bind_some, hm, hh, Option.bind_some, if_neg hc, X5_take0, Option.bind_some]
      rfl
    · intro j q1 q2 q3
      rw [fr_no _ j q1 q2, pk_un q3, pk_un q2, pk_un q1]
    · rw [fr_no _ 12 (by omega) (by omega), pk_us]
theorem find_all {L : Nat} {t : Row} {ν : Mem} (hL : L ≤ 120) (h1 : t 131 = nI L) (h9 : ν 0 9 = nI L) (ht : ∀ j, j < L → t j = ν 7 j) (hz : Zr (ν 3)) :
    ∃ e t' g' r' d', f_X3_findError t = some (e, t') ∧ f_X5_readAll ν = some (e, NN ν g' r') ∧ gd 9999 d' r' ∧ Fs (ν 0) g' ∧ Both L (ν 7) t' g' := by
  obtain ⟨t1, g1, k1, k2, k3, _, hc⟩ := rd_start hL h1 h9 ht hz
  unfold f_X3_findError
  rw [k1, Option.bind_some, k2]
  rcases hc with hs | hb
  · obtain ⟨e, t2, g2, r2, d2, q1, q2, q3, q4, q5⟩ := fe_l (ν := ν) rfl L 1 0 FU FU 0 t1 g1 frow (by omega) hs (by omega) frow_gd (fu_lt (by omega)) (fu_lt (by omega))
    exact ⟨e, t2, g2, r2, d2, q1, q2, q3, fs_tr k3 q4, q5⟩
  · exact ⟨g1 10, t1, g1, frow, 0, fe_b (n := 999999999) hb, ra_b (n := 999999998) hb, frow_gd, k3, hb.1⟩
theorem rtx {L : Nat} {w t g : Row} (h : Both L w t g) : Rtext t w (g 9) := ⟨L, h.1, h.2.1, h.2.2.1, h.2.2.2⟩
theorem rel_NN {μ ν : Mem} {L d : Nat} {t g r : Row} (h : Rel μ ν) (hf : Fs (ν 0) g) (hg : gd 9999 d r) (hb : Both L (ν 7) t g) : Rel (va_up μ 19 t) (NN ν g r) := by
  have := rel_text (q := ν 7) h (gd_Z hg) (hf 5 (by omega) (by omega) (by omega)) (rtx hb)
  rw [mu_self] at this
  exact this
theorem call_errorPosition {μ ν : Mem} (h : Rel μ ν) : ∃ v μ' ν', f_X4_errorPosition μ = some (v, μ') ∧ f_X5_errorPosition ν = some (v, ν') ∧ Rel μ' ν' := by
  have hR := rel_rf (a := 0) h
  obtain ⟨L, hL, t1, t2, t3⟩ := hR.2.2.2.2.2.2
  obtain ⟨e, t', g', r', d', k1, k2, k3, k4, k5⟩ := find_all (ν := rf ν 0) hL t1 t2 t3 hR.2.2.2.1
  refine ⟨e, va_up μ 19 t', NN (rf ν 0) g' r', ?_, ?_, rel_NN hR k4 k3 k5⟩
  · unfold f_X4_errorPosition
    rw [k1, Option.bind_some]
  · unfold f_X5_errorPosition
    rw [show va_up ν 0 (upd (ν 0) 0 0) = rf ν 0 from rfl, k2, Option.bind_some]
/-! load -/
def MM (μ : Mem) (t r : Row) : Mem := va_up (va_up μ 19 t) 0 (enc r)
theorem MM_19 (μ : Mem) (t r : Row) : MM μ t r 19 = t := by unfold MM; rw [mu_off _ _ (by omega), mu_at]
theorem MM_0 (μ : Mem) (t r : Row) : MM μ t r 0 = enc r := mu_at _ _ _
theorem MM_u (μ : Mem) (t t' r r' : Row) : va_up (va_up (MM μ t r) 19 t') 0 (enc r') = MM μ t' r' := by
  unfold MM
  rw [mu_comm _ (by omega : (0 : Nat) ≠ 19), mu_two, mu_two]
theorem ld_l {L : Nat} {w : Row} {μ ν : Mem} (hw : ν 7 = w) : ∀ m a i n n' d (t g r : Row) (v1 : Int32) (νf : Mem), L ≤ a + m → TG L w t g a → i < a → gd 9999 d r → m < n → m + 1 < n' → g 12 = v1 → fl_X5_readAll n' 1 (NN ν g r) = some (-1, νf) →
    ∃ t' g' r' d', fl_X4_load n 2 (MM μ t r) v1 (nI i) = some (0, g' 12, MM μ t' r') ∧ νf = NN ν g' r' ∧ gd 9999 d' r' ∧ Fs g g' ∧ Both L w t' g'
  | 0, a, i, n + 1, n' + 2, d, t, g, r, v1, νf, hm, h, hi, hg, _, _, h12, hra => by
    have e : a = L := by have := h.2.1; omega
    have h120 := h.1.1
    have ni : ¬ (120 : Int32) ≤ nI i := fun x => by rw [show (120 : Int32) = nI 120 from rfl, le_nI (by omega) (by omega)] at x; omega
    rw [ra_e h e] at hra
    cases hra
    refine ⟨t, g, r, d, ?_, rfl, hg, fs_rf g, h.1⟩
    show fb_X4_load_2 (fl_X4_load n) (MM μ t r) v1 (nI i) = _
    unfold fb_X4_load_2
    rw [if_neg ni, MM_19, hasC_e h e, Option.bind_some, if_pos rfl, h12]
  | m + 1, a, i, n + 1, n' + 1, d, t, g, r, v1, νf, hm, h, hi, hg, hn, hn', h12, hra => by
    have haL := h.2.1
    have h120 := h.1.1
    have ni : ¬ (120 : Int32) ≤ nI i := fun x => by rw [show (120 : Int32) = nI 120 from rfl, le_nI (by omega) (by omega)] at x; omega
    by_cases e : a = L
    · obtain ⟨n2, rfl⟩ : ∃ n2, n' = n2 + 1 := ⟨n' - 1, by omega⟩
      rw [ra_e h e] at hra
      cases hra
      refine ⟨t, g, r, d, ?_, rfl, hg, fs_rf g, h.1⟩
      show fb_X4_load_2 (fl_X4_load n) (MM μ t r) v1 (nI i) = _
      unfold fb_X4_load_2
      rw [if_neg ni, MM_19, hasC_e h e, Option.bind_some, if_pos rfl, h12]
    · have hl : a < L := by omega
      have e1 : nI i + 1 = nI (i + 1) := add_nI i 1
      obtain ⟨t', u, g', r', d', hX, hY, hg', hf, hc⟩ := rd_cmd hw h hl hg
      rw [ra_g h hl, hY, Option.bind_some] at hra
      rcases hc with ⟨a', v, ha, hs, hp, hv⟩ | hb
      · have hXl : fl_X4_load (n + 1) 2 (MM μ t r) v1 (nI i) = fl_X4_load n 2 (MM μ t' r') (g' 12) (nI (i + 1)) := by
          show fb_X4_load_2 (fl_X4_load n) (MM μ t r) v1 (nI i) = _
          unfold fb_X4_load_2
          rw [if_neg ni, MM_19, hasC_g h hl, Option.bind_some, if_neg i10, hX, Option.bind_some, mu_at, mu_off _ _ (by omega : (0 : Nat) ≠ 19), MM_0, hp, Option.bind_some, MM_u, e1, hv, h12]
          by_cases hm1 : v = -1
          · rw [if_pos hm1, if_pos hm1]
          · rw [if_neg hm1, if_neg hm1, z_add]
        rw [hXl]
        obtain ⟨t2, g2, r2, d2, k1, k2, k3, k4, k5⟩ := ld_l (μ := μ) hw m a' (i + 1) n n' d' t' g' r' (g' 12) νf (by omega) hs (by omega) hg' (by omega) (by omega) rfl hra
        exact ⟨t2, g2, r2, d2, k1, k2, k3, fs_tr hf k4, k5⟩
      · obtain ⟨n2, rfl⟩ : ∃ n2, n' = n2 + 2 := ⟨n' - 2, by omega⟩
        rw [ra_b hb] at hra
        obtain ⟨b1, e, b2, b3, b4, b5⟩ := hb
        have : g' 10 = -1 := by injection hra with q; injection q
        rw [b4] at this
        exact absurd this (m1_ne (by omega))
theorem NN_g {ν : Mem} {g g' r r' : Row} (h : NN ν g r = NN ν g' r') : g = g' ∧ r = r' := by
  have h0 := congrFun h 0
  have h3 := congrFun h 3
  rw [NN_0, NN_0] at h0
  rw [NN_3, NN_3] at h3
  exact ⟨h0, h3⟩
def lmu (μ : Mem) : Mem := va_up (va_up μ 20 (upd (upd (μ 20) 0 0) 1 0)) 21 (upd (upd (μ 21) 0 0) 1 0)
theorem lmu_o {μ : Mem} {i : Nat} (h1 : i ≠ 20) (h2 : i ≠ 21) : lmu μ i = μ i := by unfold lmu; rw [mu_off _ _ h2, mu_off _ _ h1]
theorem lmu_20 (μ : Mem) : lmu μ 20 = upd (upd (μ 20) 0 0) 1 0 := by unfold lmu; rw [mu_off _ _ (by omega), mu_at]
theorem lmu_21 (μ : Mem) : lmu μ 21 = upd (upd (μ 21) 0 0) 1 0 := mu_at _ _ _
theorem X4_load1 {μ : Mem} {t t1 : Row} {n : Nat} (h : f_X3_startReading t = some t1) : fl_X4_load (n + 3) 1 (va_up (va_up (MM μ t frow) 20 (upd (MM μ t frow 20) 0 0)) 20 (upd ((va_up (MM μ t frow) 20 (upd (MM μ t frow 20) 0 0)) 20) 1 0)) 0 0 = fl_X4_load n 2 (MM (lmu μ) t1 frow) 0 0 := by
  have e0 : va_up (va_up (MM μ t frow) 20 (upd (MM μ t frow 20) 0 0)) 20 (upd ((va_up (MM μ t frow) 20 (upd (MM μ t frow 20) 0 0)) 20) 1 0) = va_up (MM μ t frow) 20 (upd (upd (μ 20) 0 0) 1 0) := by
    rw [mu_two, mu_at]
    unfold MM
    rw [mu_off _ _ (by omega : (20 : Nat) ≠ 0), mu_off _ _ (by omega : (20 : Nat) ≠ 19)]
  rw [e0]
  have s1 : ∀ (M : Mem) n, fl_X4_load (n + 1) 1 M 0 0 = fl_X4_load n 1 (va_up M 21 (upd (M 21) 0 0)) 1 0 := fun M n => rfl
  have s2 : ∀ (M : Mem) n, fl_X4_load (n + 1) 1 M 1 0 = fl_X4_load n 1 (va_up M 21 (upd (M 21) 1 0)) 2 0 := fun M n => rfl
  have s3 : ∀ (M : Mem) n, fl_X4_load (n + 1) 1 M 2 0 = (f_X3_startReading (M 19)).bind fun r9 => fl_X4_load n 2 (va_up M 19 r9) 0 0 := fun M n => rfl
  rw [s1, s2, s3]
  have e19 : ∀ (M : Mem) (a b c : Row), va_up (va_up (va_up M 20 a) 21 b) 21 c 19 = M 19 := fun M a b c => by rw [mu_off _ _ (by omega), mu_off _ _ (by omega), mu_off _ _ (by omega)]
  rw [e19, MM_19, h, Option.bind_some]
  refine congrArg (fun M => fl_X4_load n 2 M 0 0) (funext fun i => ?_)
  unfold MM lmu va_up
  by_cases i0 : i = 0
  · subst i0; simp
  · by_cases i19 : i = 19
    · subst i19; simp
    · by_cases i20 : i = 20
      · subst i20; simp
      · by_cases i21 : i = 21
        · subst i21; simp
        · simp [i0, i19, i20, i21]
def lnu (ν : Mem) (g r : Row) : Mem := va_up (va_up (va_up (NN ν g r) 1 r) 0 (upd (upd g 0 0) 5 0)) 6 (upd (upd (ν 6) 0 0) 1 0)
theorem X5_load0 {ν : Mem} {g r : Row} (hz : Zr r) (h1 : Zr (ν 1)) : fl_X5_load FU (NN ν g r) 0 = some (g 12, lnu ν g r) := by
  show fb_X5_load_1 (fl_X5_load 999999999) (NN ν g r) 0 = _
  unfold fb_X5_load_1
  have hc : f_X5_copy (rf (NN ν g r) 0 1) (rf (NN ν g r) 0 3) = some r := by
    rw [rf_o (by omega), rf_o (by omega), NN_3]
    refine X5_copy hz ?_
    unfold NN
    rw [mu_off _ _ (by omega), mu_off _ _ (by omega)]
    exact h1
  rw [ref_ok, hc, Option.bind_some]
  have em : va_up (va_up (va_up (va_up (rf (NN ν g r) 0) 1 r) 0 (upd ((va_up (rf (NN ν g r) 0) 1 r) 0) 5 (0 : Int32))) 6 (upd ((va_up (va_up (rf (NN ν g r) 0) 1 r) 0 (upd ((va_up (rf (NN ν g r) 0) 1 r) 0) 5 (0 : Int32))) 6) ((0 : Int32).toNatClampNeg) (0 : Int32))) 6 (upd ((va_up (va_up (va_up (rf (NN ν g r) 0) 1 r) 0 (upd ((va_up (rf (NN ν g r) 0) 1 r) 0) 5 (0 : Int32))) 6 (upd ((va_up (va_up (rf (NN ν g r) 0) 1 r) 0 (upd ((va_up (rf (NN ν g r) 0) 1 r) 0) 5 (0 : Int32))) 6) ((0 : Int32).toNatClampNeg) (0 : Int32))) 6) ((1 : Int32).toNatClampNeg) (0 : Int32)) = lnu ν g r := by
    rw [mu_two, mu_at]
    unfold lnu
    have e6 : (va_up (va_up (rf (NN ν g r) 0) 1 r) 0 (upd ((va_up (rf (NN ν g r) 0) 1 r) 0) 5 (0 : Int32))) 6 = ν 6 := by
      rw [mu_off _ _ (by omega), mu_off _ _ (by omega), rf_o (by omega)]
      unfold NN
      rw [mu_off _ _ (by omega), mu_off _ _ (by omega)]
    have e0 : (va_up (rf (NN ν g r) 0) 1 r) 0 = upd g 0 0 := by
      rw [mu_off _ _ (by omega)]
      unfold rf
      rw [mu_at, NN_0]
    rw [e6, e0]
    have e1 : va_up (va_up (rf (NN ν g r) 0) 1 r) 0 (upd (upd g 0 0) 5 0) = va_up (va_up (NN ν g r) 1 r) 0 (upd (upd g 0 0) 5 0) := by
      unfold rf
      rw [mu_comm _ (by omega : (0 : Nat) ≠ 1), mu_two]
    rw [e1]
    rfl
  rw [em]
  have e12 : lnu ν g r 0 12 = g 12 := by
    unfold lnu
    rw [mu_off _ _ (by omega), mu_at, pk_un (by omega), pk_un (by omega)]
  rw [e12]
theorem rel_load {μ ν : Mem} {L d : Nat} {t g r : Row} (h : Rel μ ν) (hg : gd 9999 d r) (hb : Both L (ν 7) t g) : Rel (MM (lmu μ) t r) (lnu ν g r) := by
  have f : ∀ i, i ≠ 6 → i ≠ 0 → i ≠ 1 → i ≠ 3 → lnu ν g r i = ν i := fun i a b c e => by
    unfold lnu NN
    rw [mu_off _ _ a, mu_off _ _ b, mu_off _ _ c, mu_off _ _ e, mu_off _ _ b]
  have f0 : lnu ν g r 0 = upd (upd g 0 0) 5 0 := by unfold lnu; rw [mu_off _ _ (by omega), mu_at]
  have f1 : lnu ν g r 1 = r := by unfold lnu; rw [mu_off _ _ (by omega), mu_off _ _ (by omega), mu_at]
  have f3 : lnu ν g r 3 = r := by unfold lnu; rw [mu_off _ _ (by omega), mu_off _ _ (by omega), mu_off _ _ (by omega), NN_3]
  have f6 : lnu ν g r 6 = upd (upd (ν 6) 0 0) 1 0 := mu_at _ _ _
  have m : ∀ i, i ≠ 0 → i ≠ 19 → MM (lmu μ) t r i = lmu μ i := fun i a b => by unfold MM; rw [mu_off _ _ a, mu_off _ _ b]
  have hs : ∀ q : Row, ∀ s, s < 2 → upd (upd q 0 0) 1 0 s = (0 : Int32) := fun q s hs => by
    have : s = 0 ∨ s = 1 := by omega
    rcases this with e | e <;> subst e
    · rw [pk_un (by omega), pk_us]
    · exact pk_us
  unfold Rel
  rw [f1, f3, f6, f0, f 2 (by omega) (by omega) (by omega) (by omega), f 4 (by omega) (by omega) (by omega) (by omega), f 5 (by omega) (by omega) (by omega) (by omega), f 7 (by omega) (by omega) (by omega) (by omega), MM_0, MM_19, m 2 (by omega) (by omega), m 20 (by omega) (by omega), m 21 (by omega) (by omega), lmu_20, lmu_21, lmu_o (by omega) (by omega)]
  refine ⟨⟨rfl, d, hg⟩, h.2.1, h.2.2.1, gd_Z hg, ⟨0, 0, ?_, ?_, ?_, by omega, by omega, fun j hj => absurd hj (Nat.not_lt_zero j)⟩, fun s h2 => ⟨by rw [hs _ s h2, hs _ s h2], Or.inl (hs _ s h2)⟩, ?_⟩
  · exact hs _ 0 (by omega)
  · exact hs _ 1 (by omega)
  · rw [pk_us]; rfl
  · rw [pk_un (by omega), pk_un (by omega)]
    exact rtx hb
theorem call_load {μ ν : Mem} (h : Rel μ ν) : Call [2] (f_X4_load μ) (f_X5_load ν) := by
  obtain ⟨L, hL, t1, t2, t3⟩ := h.2.2.2.2.2.2
  obtain ⟨e, t', g', r', d', k1, k2, k3, k4, k5⟩ := find_all (ν := ν) hL t1 t2 t3 h.2.2.2.1
  have h1 : Zr (ν 1) := by
    obtain ⟨d, hg⟩ := h.1.2
    exact gd_Z hg
  unfold f_X4_load f_X5_load
  rw [k1, k2, Option.bind_some, Option.bind_some]
  by_cases he : e = -1
  · subst he
    rw [if_pos rfl, if_pos rfl, X5_load0 (gd_Z k3) h1]
    obtain ⟨q1, g1, s1, s2, s3, s4, sc⟩ := rd_start (ν := ν) hL k5.2.1 t2 k5.2.2.2 h.2.2.2.1
    rw [k2] at s2
    rcases sc with hs | hb
    · obtain ⟨t4, g4, r4, d4, j1, j2, j3, j4, j5⟩ := ld_l (μ := lmu μ) (ν := ν) rfl L 1 0 999999997 FU 0 q1 g1 frow 0 _ (by omega) hs (by omega) frow_gd (by omega) (fu_lt (by omega)) s4 s2.symm
      obtain ⟨rfl, rfl⟩ := NN_g j2
      have hc : f_X0_copyFrom ((va_up μ 19 t') 0) ((va_up μ 19 t') 2) = some (enc frow) := by
        rw [X0_copyFrom, mu_off μ _ (by omega : (2 : Nat) ≠ 19), h.2.2.1]
      refine ⟨0, g' 12, MM (lmu μ) t4 r', g' 12, lnu ν g' r', ?_, rfl, Or.inl ⟨rfl, ?_, rfl⟩, rel_load h j3 j5⟩
      · rw [hc, Option.bind_some]
        unfold f_X1_forgetAll
        rw [Option.bind_some]
        exact (X4_load1 (n := 999999997) s1).trans j1
      · unfold lnu
        rw [mu_off _ _ (by omega), mu_at, pk_un (by omega), pk_us]
    · exfalso
      rw [show FU = 999999998 + 2 from rfl, ra_b hb] at s2
      obtain ⟨b1, e, b2, b3, b4, b5⟩ := hb
      have : g1 10 = -1 := (Option.some.inj (show some (-1 : Int32) = some (g1 10) from congrArg (fun z : Option (Int32 × Mem) => z.map Prod.fst) s2)).symm
      rw [b4] at this
      have := b1.1
      exact absurd ‹nI e = -1› (m1_ne (by omega))
  · rw [if_neg he, if_neg he]
    refine ⟨2, 0, va_up μ 19 t', 0, rf (NN ν g' r') 1, rfl, ?_, Or.inr ⟨0, rfl, rf_0⟩, rel_rf (rel_NN h k4 k3 k5)⟩
    show fb_X5_load_1 (fl_X5_load 999999999) (NN ν g' r') 1 = _
    exact ref_no (t := 1) (by decide) _
