/-! a command is read on both sides, and done -/
theorem goes1 {g r : Row} {ν : Mem} (h : g 11 = 1) : f_X5_goes (NN ν g r) 1 = some (1, NN ν (upd g 12 (g 12 + 0)) r) := by
  unfold f_X5_goes
  rw [NN_0, h, if_neg i10, if_neg i10]
  show fb_X5_goes_1 1 (fl_X5_goes 1 999999999) (NN ν g r) 0 (g 12) = _
  unfold fb_X5_goes_1
  rw [NN_0, NN_u0, NN_0, pk_un (by omega : (11 : Nat) ≠ 12), h, if_neg i10, if_neg i10]
theorem goes0 {g r : Row} {ν : Mem} (h : g 11 = 1) : f_X5_goes (NN ν g r) 0 = some (0, NN ν (upd g 12 (g 12 + 1)) r) := by
  unfold f_X5_goes
  rw [NN_0, h, if_neg i10, if_pos rfl]
  show fb_X5_goes_1 0 (fl_X5_goes 0 999999999) (NN ν g r) 1 (g 12) = _
  unfold fb_X5_goes_1
  rw [NN_0, NN_u0, NN_0, pk_un (by omega : (11 : Nat) ≠ 12), h, if_neg i10, if_pos rfl]
theorem goesb {g r : Row} {ν : Mem} (h : g 11 = 0) (x : Int32) : f_X5_goes (NN ν g r) x = some (0, NN ν (upd g 12 (g 12 + 0)) r) := by
  unfold f_X5_goes
  rw [NN_0, h, if_pos rfl]
  show fb_X5_goes_1 x (fl_X5_goes x 999999999) (NN ν g r) 0 (g 12) = _
  unfold fb_X5_goes_1
  rw [NN_0, NN_u0, NN_0, pk_un (by omega : (11 : Nat) ≠ 12), h, if_pos rfl]
def Fs (g g' : Row) : Prop := ∀ j, j ≠ 10 → j ≠ 11 → j ≠ 12 → g' j = g j
def RC (L : Nat) (w : Row) (ν : Mem) (r g : Row) (a : Nat) (X : Option Row) (Y : Option (Int32 × Mem)) : Prop :=
  ∃ t' u g' r' d', X = some t' ∧ Y = some (u, NN ν g' r') ∧ gd 9999 d' r' ∧ Fs g g' ∧ ((∃ a' v, a < a' ∧ TG L w t' g' a' ∧ f_X0_perform (enc r) (t' 134) (t' 135) (t' 136) (t' 137) = some (v, enc r') ∧ g' 12 = g 12 + (if v = -1 then 1 else 0)) ∨ SB L w t' g')
theorem fs_12 {g g2 : Row} {x : Int32} (h : Fr g g2) : Fs g (upd g2 12 x) := fun j h1 h2 h3 => by rw [pk_un h3]; exact h j h1 h2
theorem rc_fin {L a a' d : Nat} {w t2 g g2 r : Row} {ν : Mem} {X : Option Row} {Y : Option (Int32 × Mem)} {can : Int32} (Zf : Row → Option (Int32 × Row)) (hg : gd 9999 d r) (ha : a < a') (hX : X = some t2) (hf : Fr g g2)
    (hY : Y = (f_X5_goes (NN ν g2 r) can).bind fun r8 => if r8.1 = 0 then some ((0 : Int32), r8.2) else (Zf (r8.2 3)).bind fun r11 => some (r11.1, va_up r8.2 3 r11.2))
    (hc : (TG L w t2 g2 a' ∧ ((∃ F, left r (t2 134) (t2 135) (t2 136) (t2 137) F ∧ can = 0) ∨ (done r (t2 134) (t2 135) (t2 136) (t2 137) (Zf r) ∧ can = 1))) ∨ SB L w t2 g2) : RC L w ν r g a X Y := by
  have e12 : g2 12 = g 12 := hf 12 (by omega) (by omega)
  rcases hc with ⟨hs, ⟨F, hl, rfl⟩ | ⟨hd, rfl⟩⟩ | hb
  · refine ⟨t2, 0, upd g2 12 (g2 12 + 1), r, d, hX, ?_, hg, fs_12 hf, Or.inl ⟨a', -1, ha, sg_g hs (by omega), hl.2, ?_⟩⟩
    · rw [hY, goes0 hs.2.2.2.2.2, Option.bind_some, if_pos rfl]
    · rw [pk_us, e12, if_pos rfl]
  · obtain ⟨v, r', _, h2, h3, h4, d', h5⟩ := hd
    refine ⟨t2, v, upd g2 12 (g2 12 + 0), r', d', hX, ?_, h5, fs_12 hf, Or.inl ⟨a', v, ha, sg_g hs (by omega), h2, ?_⟩⟩
    · rw [hY, goes1 hs.2.2.2.2.2, Option.bind_some, if_neg i10]
      dsimp only
      rw [NN_3, h3, Option.bind_some, NN_u3]
    · rw [pk_us, e12, if_neg (nn_m1 h4)]
  · obtain ⟨b1, e, b2, b3, b4, b5⟩ := id hb
    refine ⟨t2, 0, upd g2 12 (g2 12 + 0), r, d, hX, ?_, hg, fs_12 hf, Or.inr (sb_g hb (by omega))⟩
    rw [hY, goesb b5, Option.bind_some, if_pos rfl]
def cB (t : Row) (c : Int32) (a : Nat) : Row := upd (upd (upd (upd (upd t 134 c) 135 0) 136 0) 137 0) 132 (nI (a + 1))
theorem cB_sg {L a : Nat} {w t g : Row} {c : Int32} (h : TG L w t g a) (hl : a < L) : TG L w (cB t c a) (gok g) (a + 1) := sg_ok (sg_t (sg_t (sg_t (sg_t h (by omega)) (by omega)) (by omega)) (by omega)) hl
theorem cB_134 (t : Row) (c : Int32) (a : Nat) : cB t c a 134 = c := rfl
theorem cB_135 (t : Row) (c : Int32) (a : Nat) : cB t c a 135 = 0 := rfl
theorem cB_136 (t : Row) (c : Int32) (a : Nat) : cB t c a 136 = 0 := rfl
theorem cB_137 (t : Row) (c : Int32) (a : Nat) : cB t c a 137 = 0 := rfl
/-- a site (or a setting) and a number -/
theorem site_two {L a h1 lo hi : Nat} {w B g r : Row} {ν : Mem} (hw : ν 7 = w) (h : TG L w B g a) (hh : h1 ≤ 9) (hl : lo ≤ hi) (hhi : hi < 100) :
    ∃ s v t2 g1 g2, s ≤ h1 ∧ lo ≤ v ∧ v ≤ hi ∧ f_X5_digit (NN ν g r) (nI 0) (nI h1) = some (nI s, NN ν g1 r) ∧ f_X5_two (NN ν g1 r) (nI lo) (nI hi) = some (nI v, NN ν g2 r) ∧ ((f_X3_readDigit B (nI 0) (nI h1)).bind fun r16 => (f_X3_readNumber (upd r16.2 135 r16.1) (nI lo) (nI hi)).bind fun r18 => some (upd r18.2 136 r18.1)) = some t2 ∧ Fr g g2 ∧ ((TG L w t2 g2 (a + 3) ∧ t2 134 = B 134 ∧ t2 135 = nI s ∧ t2 136 = nI v ∧ t2 137 = B 137) ∨ SB L w t2 g2) := by
  obtain ⟨s, x, t1, g1, _, s2, d3, d5, f1, f2, hc⟩ := digit_g (r := r) hw h (Nat.zero_le h1) hh
  rcases hc with ⟨hs, rfl⟩ | hb
  · obtain ⟨v, y, t2, g2, v1, v2, e3, e5, f3, f4, hc2⟩ := two_g (r := r) (lo := lo) (hi := hi) hw (sg_t (k := 135) (v := nI s) hs (by omega)) hl hhi
    refine ⟨s, v, upd t2 136 y, g1, g2, s2, v1, v2, d5, e5, ?_, fr_tr f2 f4, ?_⟩
    · rw [d3, Option.bind_some, e3]; rfl
    · rcases hc2 with ⟨hs2, rfl⟩ | hb2
      · refine Or.inl ⟨sg_t hs2 (by omega), ?_, ?_, pk_us, ?_⟩
        · rw [pk_un (by omega), f3 134 (by omega), pk_un (by omega), f1 134 (by omega)]
        · rw [pk_un (by omega), f3 135 (by omega), pk_us]
        · rw [pk_un (by omega), f3 137 (by omega), pk_un (by omega), f1 137 (by omega)]
      · exact Or.inr (sb_t hb2 (by omega))
  · obtain ⟨v, y, g2, v1, v2, e3, e5, f4, hb2⟩ := two_b (r := r) (ν := ν) (lo := lo) (hi := hi) (sb_t (k := 135) (v := x) hb (by omega)) hl hhi
    refine ⟨s, v, upd (upd t1 135 x) 136 y, g1, g2, s2, v1, v2, d5, e5, ?_, fr_tr f2 f4, Or.inr (sb_t hb2 (by omega))⟩
    rw [d3, Option.bind_some, e3]; rfl
theorem rc_fence {L a d : Nat} {w B g0 g r : Row} {ν : Mem} (hw : ν 7 = w) (h : TG L w B g (a + 1)) (hg : gd 9999 d r) (hf : Fr g0 g) (b4 : B 134 = 102) (b7 : B 137 = 0) :
    RC L w ν r g0 a ((f_X3_readDigit B 0 3).bind fun r16 => (f_X3_readNumber (upd r16.2 135 r16.1) 0 20).bind fun r18 => some (upd r18.2 136 r18.1)) (f_X5_readAtSite (NN ν g r) 102) := by
  obtain ⟨s, v, t2, g1, g2, s2, v1, v2, d5, e5, hX, f2, hc⟩ := site_two (r := r) (h1 := 3) (lo := 0) (hi := 20) hw h (by omega) (by omega) (by omega)
  have hY : f_X5_readAtSite (NN ν g r) 102 = (f_X5_isSite r (nI s)).bind fun r6 => (f_X5_goes (NN ν g2 r) r6).bind fun r8 => if r8.1 = 0 then some ((0 : Int32), r8.2) else (f_X5_put (r8.2 3) (35 * nI s + 1) (nI v)).bind fun r11 => some (r11.1, va_up r8.2 3 r11.2) := by
    unfold f_X5_readAtSite
    rw [show (0 : Int32) = nI 0 from rfl, show (3 : Int32) = nI 3 from rfl, d5, Option.bind_some, if_pos rfl, show (20 : Int32) = nI 20 from rfl, e5, Option.bind_some]
    dsimp only
    rw [NN_3]
  rw [hY]
  have hv : (0 : Int32) ≤ nI v ∧ nI v ≤ 20 := ⟨nI_pos' (by omega), (le_nI (b := 20) (by omega) (by omega)).mpr v2⟩
  rcases fence_cases (nI s) (nI v) hg with ⟨hl, hs⟩ | ⟨hl, hs, hr⟩ | ⟨hd, hs, hr⟩
  · rw [hs]
    refine rc_fin (fun x => f_X5_put x (35 * nI s + 1) (nI v)) hg (by omega) hX (fr_tr hf f2) rfl (hc.imp (fun ⟨q1, q2, q3, q4, q5⟩ => ⟨q1, Or.inl ⟨1, ?_, rfl⟩⟩) id)
    rw [q2, q3, q4, q5, b4, b7]; exact hl
  · exact absurd hv hr
  · rw [hs]
    refine rc_fin (fun x => f_X5_put x (35 * nI s + 1) (nI v)) hg (by omega) hX (fr_tr hf f2) rfl (hc.imp (fun ⟨q1, q2, q3, q4, q5⟩ => ⟨q1, Or.inr ⟨?_, rfl⟩⟩) id)
    rw [q2, q3, q4, q5, b4, b7]; exact hd
theorem rc_tube {L a d : Nat} {w B g0 g r : Row} {ν : Mem} (hw : ν 7 = w) (h : TG L w B g (a + 1)) (hg : gd 9999 d r) (hf : Fr g0 g) (b4 : B 134 = 116) (b7 : B 137 = 0) :
    RC L w ν r g0 a ((f_X3_readDigit B 0 3).bind fun r16 => (f_X3_readNumber (upd r16.2 135 r16.1) 1 30).bind fun r18 => some (upd r18.2 136 r18.1)) (f_X5_readAtSite (NN ν g r) 116) := by
  obtain ⟨s, v, t2, g1, g2, s2, v1, v2, d5, e5, hX, f2, hc⟩ := site_two (r := r) (h1 := 3) (lo := 1) (hi := 30) hw h (by omega) (by omega) (by omega)
  have hY : f_X5_readAtSite (NN ν g r) 116 = (f_X5_isSite r (nI s)).bind fun r25 => if r25 = 0 then fl_X5_readAtSite 116 FU 2 (NN ν g2 r) 0 (nI s) (nI v) else if (8 : Int32) ≤ r 197 then fl_X5_readAtSite 116 FU 2 (NN ν g2 r) 0 (nI s) (nI v) else fl_X5_readAtSite 116 FU 2 (NN ν g2 r) 1 (nI s) (nI v) := by
    unfold f_X5_readAtSite
    rw [show (f_X5_digit (NN ν g r) 0 3) = some (nI s, NN ν g1 r) from d5, Option.bind_some, if_neg (by decide), if_neg (by decide), if_pos rfl, show f_X5_two (NN ν g1 r) 1 30 = some (nI v, NN ν g2 r) from e5, Option.bind_some]
    dsimp only
    simp only [NN_3]
    rfl
  have hfl : ∀ x, fl_X5_readAtSite 116 FU 2 (NN ν g2 r) x (nI s) (nI v) = (f_X5_goes (NN ν g2 r) x).bind fun r8 => if r8.1 = 0 then some ((0 : Int32), r8.2) else (f_X5_addTube (r8.2 3) (nI s) (nI v)).bind fun r11 => some (r11.1, va_up r8.2 3 r11.2) := fun x => rfl
  rw [hY]
  have hv : (1 : Int32) ≤ nI v ∧ nI v ≤ 30 := ⟨(le_nI (a := 1) (by omega) (by omega)).mpr v1, (le_nI (b := 30) (by omega) (by omega)).mpr v2⟩
  rcases tube_cases (nI s) (nI v) hg with ⟨hl, hs⟩ | ⟨hl, hs, hr⟩ | ⟨hl, hs, hr, h8⟩ | ⟨hd, hs, hr, m, hm, h8⟩
  · rw [hs, Option.bind_some, if_pos rfl, hfl]
    refine rc_fin (fun x => f_X5_addTube x (nI s) (nI v)) hg (by omega) hX (fr_tr hf f2) rfl (hc.imp (fun ⟨q1, q2, q3, q4, q5⟩ => ⟨q1, Or.inl ⟨1, ?_, rfl⟩⟩) id)
    rw [q2, q3, q4, q5, b4, b7]; exact hl
  · exact absurd hv hr
  · rw [hs, Option.bind_some, if_neg i10, h8, if_pos (by decide), hfl]
    refine rc_fin (fun x => f_X5_addTube x (nI s) (nI v)) hg (by omega) hX (fr_tr hf f2) rfl (hc.imp (fun ⟨q1, q2, q3, q4, q5⟩ => ⟨q1, Or.inl ⟨3, ?_, rfl⟩⟩) id)
    rw [q2, q3, q4, q5, b4, b7]; exact hl
  · rw [hs, Option.bind_some, if_neg i10, h8, if_neg (fun x => by rw [show (8 : Int32) = nI 8 from rfl, le_nI (by omega) (by omega)] at x; omega), hfl]
    refine rc_fin (fun x => f_X5_addTube x (nI s) (nI v)) hg (by omega) hX (fr_tr hf f2) rfl (hc.imp (fun ⟨q1, q2, q3, q4, q5⟩ => ⟨q1, Or.inr ⟨?_, rfl⟩⟩) id)
    rw [q2, q3, q4, q5, b4, b7]; exact hd
theorem rc_pipe {L a d : Nat} {w B g0 g r : Row} {ν : Mem} (hw : ν 7 = w) (h : TG L w B g (a + 1)) (hg : gd 9999 d r) (hf : Fr g0 g) (b4 : B 134 = 112) (b7 : B 137 = 0) :
    RC L w ν r g0 a ((f_X3_readDigit B 0 3).bind fun r16 => (f_X3_readNumber (upd r16.2 135 r16.1) 0 29).bind fun r18 => some (upd r18.2 136 r18.1)) (f_X5_readAtSite (NN ν g r) 112) := by
  obtain ⟨s, v, t2, g1, g2, s2, v1, v2, d5, e5, hX, f2, hc⟩ := site_two (r := r) (h1 := 3) (lo := 0) (hi := 29) hw h (by omega) (by omega) (by omega)
  have hY : f_X5_readAtSite (NN ν g r) 112 = (f_X5_isSite r (nI s)).bind fun r16 => if r16 = 0 then fl_X5_readAtSite 112 FU 1 (NN ν g2 r) 0 (nI s) (nI v) else (f_X5_canLay r (nI s) (nI v)).bind fun r19 => if r19 = 0 then fl_X5_readAtSite 112 FU 1 (NN ν g2 r) 0 (nI s) (nI v) else fl_X5_readAtSite 112 FU 1 (NN ν g2 r) 1 (nI s) (nI v) := by
    unfold f_X5_readAtSite
    rw [show (f_X5_digit (NN ν g r) 0 3) = some (nI s, NN ν g1 r) from d5, Option.bind_some, if_neg (by decide), if_pos rfl, show f_X5_two (NN ν g1 r) 0 29 = some (nI v, NN ν g2 r) from e5, Option.bind_some]
    dsimp only
    rw [NN_3]
  have hfl : ∀ x, fl_X5_readAtSite 112 FU 1 (NN ν g2 r) x (nI s) (nI v) = (f_X5_goes (NN ν g2 r) x).bind fun r8 => if r8.1 = 0 then some ((0 : Int32), r8.2) else (f_X5_addPipe (r8.2 3) (nI s) (nI v)).bind fun r11 => some (r11.1, va_up r8.2 3 r11.2) := fun x => rfl
  rw [hY]
  rcases pipe_cases (nI s) (nI v) hg with ⟨hl, hs⟩ | ⟨hl, hs, hr, _⟩ | ⟨hl, hs, hr, h8⟩ | ⟨hd, hs, hr, h8⟩
  · rw [hs, Option.bind_some, if_pos rfl, hfl]
    refine rc_fin (fun x => f_X5_addPipe x (nI s) (nI v)) hg (by omega) hX (fr_tr hf f2) rfl (hc.imp (fun ⟨q1, q2, q3, q4, q5⟩ => ⟨q1, Or.inl ⟨1, ?_, rfl⟩⟩) id)
    rw [q2, q3, q4, q5, b4, b7]; exact hl
  · rw [X5_isCell_y (by omega)] at hr
    cases hr
  · rw [hs, Option.bind_some, if_neg i10, h8, Option.bind_some, if_pos rfl, hfl]
    refine rc_fin (fun x => f_X5_addPipe x (nI s) (nI v)) hg (by omega) hX (fr_tr hf f2) rfl (hc.imp (fun ⟨q1, q2, q3, q4, q5⟩ => ⟨q1, Or.inl ⟨3, ?_, rfl⟩⟩) id)
    rw [q2, q3, q4, q5, b4, b7]; exact hl
  · rw [hs, Option.bind_some, if_neg i10, h8, Option.bind_some, if_neg i10, hfl]
    refine rc_fin (fun x => f_X5_addPipe x (nI s) (nI v)) hg (by omega) hX (fr_tr hf f2) rfl (hc.imp (fun ⟨q1, q2, q3, q4, q5⟩ => ⟨q1, Or.inr ⟨?_, rfl⟩⟩) id)
    rw [q2, q3, q4, q5, b4, b7]; exact hd
theorem rc_shovel {L a d : Nat} {w B g0 g r : Row} {ν : Mem} (hw : ν 7 = w) (h : TG L w B g (a + 1)) (hg : gd 9999 d r) (hf : Fr g0 g) (b4 : B 134 = 120) (b6 : B 136 = 0) (b7 : B 137 = 0) :
    RC L w ν r g0 a ((f_X3_readDigit B 0 3).bind fun r33 => some (upd r33.2 135 r33.1)) (f_X5_readAtSite (NN ν g r) 120) := by
  obtain ⟨s, x, t1, g1, _, s2, d3, d5, f1, f2, hc⟩ := digit_g (r := r) hw h (Nat.zero_le 3) (by omega)
  have hX : ((f_X3_readDigit B 0 3).bind fun r33 => some (upd r33.2 135 r33.1)) = some (upd t1 135 x) := by
    rw [show f_X3_readDigit B 0 3 = some (x, t1) from d3]; rfl
  have hY : f_X5_readAtSite (NN ν g r) 120 = (f_X5_isSite r (nI s)).bind fun r6 => (f_X5_goes (NN ν g1 r) r6).bind fun r8 => if r8.1 = 0 then some ((0 : Int32), r8.2) else (f_X5_put (r8.2 3) (35 * nI s + 0) 0).bind fun r11 => some (r11.1, va_up r8.2 3 r11.2) := by
    unfold f_X5_readAtSite
    rw [show (f_X5_digit (NN ν g r) 0 3) = some (nI s, NN ν g1 r) from d5, Option.bind_some, if_neg (by decide), if_neg (by decide), if_neg (by decide)]
    dsimp only
    rw [NN_3]
  have hc2 : (TG L w (upd t1 135 x) g1 (a + 2) ∧ (upd t1 135 x) 134 = 120 ∧ (upd t1 135 x) 135 = nI s ∧ (upd t1 135 x) 136 = 0 ∧ (upd t1 135 x) 137 = 0) ∨ SB L w (upd t1 135 x) g1 := by
    rcases hc with ⟨q, rfl⟩ | q
    · exact Or.inl ⟨sg_t q (by omega), by rw [pk_un (by omega), f1 134 (by omega), b4], pk_us, by rw [pk_un (by omega), f1 136 (by omega), b6], by rw [pk_un (by omega), f1 137 (by omega), b7]⟩
    · exact Or.inr (sb_t q (by omega))
  rw [hY]
  rcases shovel_cases (nI s) hg with ⟨hl, hs⟩ | ⟨hd, hs⟩
  · rw [hs]
    refine rc_fin (fun x => f_X5_put x (35 * nI s + 0) 0) hg (by omega) hX (fr_tr hf f2) rfl (hc2.imp (fun ⟨q1, q2, q3, q4, q5⟩ => ⟨q1, Or.inl ⟨1, ?_, rfl⟩⟩) id)
    rw [q2, q3, q4, q5]; exact hl
  · rw [hs]
    refine rc_fin (fun x => f_X5_put x (35 * nI s + 0) 0) hg (by omega) hX (fr_tr hf f2) rfl (hc2.imp (fun ⟨q1, q2, q3, q4, q5⟩ => ⟨q1, Or.inr ⟨?_, rfl⟩⟩) id)
    rw [q2, q3, q4, q5]; exact hd
theorem rc_set {L a d : Nat} {w B g0 g r : Row} {ν : Mem} (hw : ν 7 = w) (h : TG L w B g (a + 1)) (hg : gd 9999 d r) (hf : Fr g0 g) (b4 : B 134 = 101) (b7 : B 137 = 0) :
    RC L w ν r g0 a ((f_X3_readDigit B 0 2).bind fun r16 => (f_X3_readNumber (upd r16.2 135 r16.1) 0 50).bind fun r18 => some (upd r18.2 136 r18.1)) (f_X5_readSet (NN ν g r)) := by
  obtain ⟨s, v, t2, g1, g2, s2, v1, v2, d5, e5, hX, f2, hc⟩ := site_two (r := r) (h1 := 2) (lo := 0) (hi := 50) hw h (by omega) (by omega) (by omega)
  have hY : f_X5_readSet (NN ν g r) = (f_X5_isSetting (nI s) (nI v)).bind fun r6 => (f_X5_goes (NN ν g2 r) r6).bind fun r8 => if r8.1 = 0 then some ((0 : Int32), r8.2) else (f_X5_put (r8.2 3) (202 + nI s) (nI v)).bind fun r11 => some (r11.1, va_up r8.2 3 r11.2) := by
    unfold f_X5_readSet
    rw [show (f_X5_digit (NN ν g r) 0 2) = some (nI s, NN ν g1 r) from d5, Option.bind_some, show f_X5_two (NN ν g1 r) 0 50 = some (nI v, NN ν g2 r) from e5, Option.bind_some]
  rw [hY]
  rcases set_cases (nI s) (nI v) hg with ⟨hl, hs⟩ | ⟨hd, hs⟩
  · rw [X5_isSetting_n hs]
    refine rc_fin (fun x => f_X5_put x (202 + nI s) (nI v)) hg (by omega) hX (fr_tr hf f2) rfl (hc.imp (fun ⟨q1, q2, q3, q4, q5⟩ => ⟨q1, Or.inl ⟨2, ?_, rfl⟩⟩) id)
    rw [q2, q3, q4, q5, b4, b7]; exact hl
  · rw [X5_isSetting_y hs]
    refine rc_fin (fun x => f_X5_put x (202 + nI s) (nI v)) hg (by omega) hX (fr_tr hf f2) rfl (hc.imp (fun ⟨q1, q2, q3, q4, q5⟩ => ⟨q1, Or.inr ⟨?_, rfl⟩⟩) id)
    rw [q2, q3, q4, q5, b4, b7]; exact hd
/-! days -/
def sgt (neg : Bool) (v : Int32) : Int32 := if neg then -v else v
theorem sgt_dg (neg : Bool) {v : Nat} (hv : v ≤ 30) : (-30 : Int32) ≤ sgt neg (nI v) ∧ sgt neg (nI v) ≤ 30 := by
  have h1 : (nI v).toInt = (v : Int) := nI_toInt (by omega)
  cases neg with
  | false =>
    refine ⟨?_, (le_nI (b := 30) (by omega) (by omega)).mpr hv⟩
    rw [Int32.le_iff_toInt_le]
    show (-30 : Int32).toInt ≤ (nI v).toInt
    rw [h1, show (-30 : Int32).toInt = -30 from rfl]
    omega
  | true =>
    have h2 : (-nI v).toInt = -(v : Int) := by
      rw [Int32.toInt_neg, h1]
      exact Int.bmod_eq_of_le (by omega) (by omega)
    refine ⟨?_, ?_⟩
    · rw [Int32.le_iff_toInt_le]
      show (-30 : Int32).toInt ≤ (-nI v).toInt
      rw [h2, show (-30 : Int32).toInt = -30 from rfl]
      omega
    · rw [Int32.le_iff_toInt_le]
      show (-nI v).toInt ≤ (30 : Int32).toInt
      rw [h2, show (30 : Int32).toInt = 30 from rfl]
      omega
/-- snow and number of days, behind the temperature -/
theorem snow_n {L a : Nat} {w t g r : Row} {ν : Mem} {T : Int32} (hw : ν 7 = w) (h : TG L w t g a) :
    ∃ u v t2 g1 g2, u ≤ 30 ∧ 1 ≤ v ∧ v ≤ 60 ∧ f_X5_two (NN ν g r) (nI 0) (nI 30) = some (nI u, NN ν g1 r) ∧ f_X5_two (NN ν g1 r) (nI 1) (nI 60) = some (nI v, NN ν g2 r) ∧ ((f_X3_readNumber (upd t 135 T) (nI 0) (nI 30)).bind fun r6 => (f_X3_readNumber (upd r6.2 136 r6.1) (nI 1) (nI 60)).bind fun r8 => some (upd r8.2 137 r8.1)) = some t2 ∧ Fr g g2 ∧ ((TG L w t2 g2 (a + 4) ∧ t2 134 = t 134 ∧ t2 135 = T ∧ t2 136 = nI u ∧ t2 137 = nI v) ∨ SB L w t2 g2) := by
  obtain ⟨u, x, t1, g1, _, u2, d3, d5, f1, f2, hc⟩ := two_g (r := r) (lo := 0) (hi := 30) hw (sg_t (k := 135) (v := T) h (by omega)) (by omega) (by omega)
  rcases hc with ⟨hs, rfl⟩ | hb
  · obtain ⟨v, y, t2, g2, v1, v2, e3, e5, f3, f4, hc2⟩ := two_g (r := r) (lo := 1) (hi := 60) hw (sg_t (k := 136) (v := nI u) hs (by omega)) (by omega) (by omega)
    refine ⟨u, v, upd t2 137 y, g1, g2, u2, v1, v2, d5, e5, ?_, fr_tr f2 f4, ?_⟩
    · rw [d3, Option.bind_some, e3]; rfl
    · rcases hc2 with ⟨hs2, rfl⟩ | hb2
      · refine Or.inl ⟨sg_t hs2 (by omega), ?_, ?_, ?_, pk_us⟩
        · rw [pk_un (by omega), f3 134 (by omega), pk_un (by omega), f1 134 (by omega), pk_un (by omega)]
        · rw [pk_un (by omega), f3 135 (by omega), pk_un (by omega), f1 135 (by omega), pk_us]
        · rw [pk_un (by omega), f3 136 (by omega), pk_us]
      · exact Or.inr (sb_t hb2 (by omega))
  · obtain ⟨v, y, g2, v1, v2, e3, e5, f4, hb2⟩ := two_b (r := r) (ν := ν) (lo := 1) (hi := 60) (sb_t (k := 136) (v := x) hb (by omega)) (by omega) (by omega)
    refine ⟨u, v, upd (upd t1 136 x) 137 y, g1, g2, u2, v1, v2, d5, e5, ?_, fr_tr f2 f4, Or.inr (sb_t hb2 (by omega))⟩
    rw [d3, Option.bind_some, e3]; rfl
theorem snow_b {L : Nat} {w t g r : Row} {ν : Mem} {T : Int32} (h : SB L w t g) :
    ∃ u v t2 g1 g2, u ≤ 30 ∧ 1 ≤ v ∧ v ≤ 60 ∧ f_X5_two (NN ν g r) (nI 0) (nI 30) = some (nI u, NN ν g1 r) ∧ f_X5_two (NN ν g1 r) (nI 1) (nI 60) = some (nI v, NN ν g2 r) ∧ ((f_X3_readNumber (upd t 135 T) (nI 0) (nI 30)).bind fun r6 => (f_X3_readNumber (upd r6.2 136 r6.1) (nI 1) (nI 60)).bind fun r8 => some (upd r8.2 137 r8.1)) = some t2 ∧ Fr g g2 ∧ SB L w t2 g2 := by
  obtain ⟨u, x, g1, _, u2, d3, d5, f2, hb⟩ := two_b (r := r) (ν := ν) (lo := 0) (hi := 30) (sb_t (k := 135) (v := T) h (by omega)) (by omega) (by omega)
  obtain ⟨v, y, g2, v1, v2, e3, e5, f4, hb2⟩ := two_b (r := r) (ν := ν) (lo := 1) (hi := 60) (sb_t (k := 136) (v := x) hb (by omega)) (by omega) (by omega)
  refine ⟨u, v, upd (upd (upd t 135 T) 136 x) 137 y, g1, g2, u2, v1, v2, d5, e5, ?_, fr_tr f2 f4, sb_t hb2 (by omega)⟩
  rw [d3, Option.bind_some, e3]; rfl
/-- the three numbers of days are read, either way -/
theorem days_rd {L a : Nat} {w B g r : Row} {ν : Mem} (hw : ν 7 = w) (h : TG L w B g a) :
    ∃ (ok neg : Bool) (v u n : Nat) (t2 ga g1 g2 g3 : Row), v ≤ 30 ∧ u ≤ 30 ∧ 1 ≤ n ∧ n ≤ 60 ∧ (ok = true → (sgn w L a = if neg then 45 else 43)) ∧ (ok = false → ¬ sgn w L a = 43 ∧ ¬ sgn w L a = 45) ∧ f_X5_take (NN ν g r) (b2i ok) = some (NN ν ga r) ∧ f_X5_two (NN ν ga r) (nI 0) (nI 30) = some (nI v, NN ν g1 r) ∧ f_X5_two (NN ν g1 r) (nI 0) (nI 30) = some (nI u, NN ν g2 r) ∧ f_X5_two (NN ν g2 r) (nI 1) (nI 60) = some (nI n, NN ν g3 r) ∧
      ((f_X3_readTemperature B).bind fun r4 => (f_X3_readNumber (upd r4.2 135 r4.1) (nI 0) (nI 30)).bind fun r6 => (f_X3_readNumber (upd r6.2 136 r6.1) (nI 1) (nI 60)).bind fun r8 => some (upd r8.2 137 r8.1)) = some t2 ∧ Fr g g3 ∧ ((TG L w t2 g3 (a + 7) ∧ ok = true ∧ t2 134 = B 134 ∧ t2 135 = sgt neg (nI v) ∧ t2 136 = nI u ∧ t2 137 = nI n) ∨ SB L w t2 g3) := by
  have hs := X3_sign h
  by_cases hsg : sgn w L a = 43 ∨ sgn w L a = 45
  · have hl : a < L := by
      by_cases hl : a < L
      · exact hl
      · unfold sgn at hsg
        rw [if_neg hl] at hsg
        rcases hsg with e | e <;> exact absurd e (by decide)
    obtain ⟨neg, hneg⟩ : ∃ neg : Bool, sgn w L a = if neg then (45 : Int32) else 43 := by
      rcases hsg with e | e
      · exact ⟨false, e⟩
      · exact ⟨true, e⟩
    have h2 := sg_ok h hl
    have eB : upd B 132 (B 132 + 1) = upd B 132 (nI (a + 1)) := by rw [h.2.2.1]; rw [show nI a + 1 = nI (a + 1) from add_nI a 1]
    obtain ⟨v, x, t1, g1, _, v2, d3, d5, f1, f2, hc⟩ := two_g (r := r) (lo := 0) (hi := 30) hw h2 (by omega) (by omega)
    have ht : f_X3_readTemperature B = some (sgt neg x, t1) := by
      have hbody : ∀ c, (c = if neg then (45 : Int32) else 43) → fl_X3_readTemperature FU B c = some (sgt neg x, t1) := fun c hc => by
        show fb_X3_readTemperature_1 (fl_X3_readTemperature 999999999) B c = _
        unfold fb_X3_readTemperature_1
        rw [eB, show (0 : Int32) = nI 0 from rfl, show (30 : Int32) = nI 30 from rfl, d3, Option.bind_some, hc]
        cases neg with
        | false => exact if_neg (by decide)
        | true => exact if_pos rfl
      unfold f_X3_readTemperature
      rw [hs, Option.bind_some]
      rcases hsg with e | e
      · rw [if_pos e]; exact hbody _ hneg
      · rw [if_neg (by rw [e]; decide), if_pos e]; exact hbody _ hneg
    have htk : f_X5_take (NN ν g r) (b2i true) = some (NN ν (gok g) r) := X5_take1 h.2.2.2.2.2
    rcases hc with ⟨hg1, rfl⟩ | hb
    · obtain ⟨u, n, t2, g2, g3, u2, n1, n2, k1, k2, hX, f3, hc2⟩ := snow_n (r := r) (T := sgt neg (nI v)) hw hg1
      refine ⟨true, neg, v, u, n, t2, gok g, g1, g2, g3, v2, u2, n1, n2, fun _ => hneg, (fun e => by cases e), htk, d5, k1, k2, ?_, fr_tr (fr_ok g) (fr_tr f2 f3), ?_⟩
      · rw [ht, Option.bind_some]; exact hX
      · refine hc2.imp (fun ⟨q1, q2, q3, q4, q5⟩ => ⟨q1, rfl, ?_, q3, q4, q5⟩) id
        rw [q2, f1 134 (by omega), pk_un (by omega)]
    · obtain ⟨u, n, t2, g2, g3, u2, n1, n2, k1, k2, hX, f3, hc2⟩ := snow_b (r := r) (ν := ν) (T := sgt neg x) hb
      refine ⟨true, neg, v, u, n, t2, gok g, g1, g2, g3, v2, u2, n1, n2, fun _ => hneg, (fun e => by cases e), htk, d5, k1, k2, ?_, fr_tr (fr_ok g) (fr_tr f2 f3), Or.inr hc2⟩
      rw [ht, Option.bind_some]; exact hX
  · have ht : f_X3_readTemperature B = some (0, upd B 133 (nI a)) := by
      unfold f_X3_readTemperature
      rw [hs, Option.bind_some, if_neg (fun e => hsg (Or.inl e)), if_neg (fun e => hsg (Or.inr e)), h.2.2.1]
    have htk : f_X5_take (NN ν g r) (b2i false) = some (NN ν (gno g) r) := X5_take0
    have hb := sb_no h
    obtain ⟨v, x, g1, _, v2, d3, d5, f2, hb2⟩ := two_b (r := r) (ν := ν) (lo := 0) (hi := 30) hb (by omega) (by omega)
    obtain ⟨u, n, t2, g2, g3, u2, n1, n2, k1, k2, hX, f3, hc2⟩ := snow_b (r := r) (ν := ν) (T := 0) hb2
    refine ⟨false, false, v, u, n, t2, gno g, g1, g2, g3, v2, u2, n1, n2, fun e => by (cases e), fun _ => ⟨fun e => hsg (Or.inl e), fun e => hsg (Or.inr e)⟩, htk, d5, k1, k2, ?_, fr_tr (fr_no g) (fr_tr f2 f3), Or.inr hc2⟩
    rw [ht, Option.bind_some]; exact hX
theorem rc_days {L a d : Nat} {w B g0 g r : Row} {ν : Mem} (hw : ν 7 = w) (h : TG L w B g (a + 1)) (hg : gd 9999 d r) (hf : Fr g0 g) (b4 : B 134 = 100) :
    RC L w ν r g0 a ((f_X3_readTemperature B).bind fun r4 => (f_X3_readNumber (upd r4.2 135 r4.1) 0 30).bind fun r6 => (f_X3_readNumber (upd r6.2 136 r6.1) 1 60).bind fun r8 => some (upd r8.2 137 r8.1)) (f_X5_readDays (NN ν g r)) := by
  obtain ⟨ok, neg, v, u, n, t2, ga, g1, g2, g3, v2, u2, n1, n2, hok, hno, htk, k1, k2, k3, hX, f2, hc⟩ := days_rd (r := r) hw h
  have hwe : wea (sgt neg (nI v)) (nI u) (nI n) := ⟨sgt_dg neg v2, ⟨nI_pos' (by omega), (le_nI (b := 30) (by omega) (by omega)).mpr u2⟩, (le_nI (a := 1) (by omega) (by omega)).mpr n1, (le_nI (b := 60) (by omega) (by omega)).mpr n2⟩
  have hbody : ∀ c, (ok = true → c = if neg then (45 : Int32) else 43) → fl_X5_readDays FU (NN ν g r) (b2i ok) c = (f_X5_hasDays r (nI n)).bind fun r13 => (f_X5_goes (NN ν g3 r) r13).bind fun r15 => if r15.1 = 0 then some ((0 : Int32), r15.2) else if c = 45 then (f_X5_goDays (r15.2 3) (-nI v) (nI u) (nI n)).bind fun r21 => some (r21.1, va_up r15.2 3 r21.2) else (f_X5_goDays (r15.2 3) (nI v) (nI u) (nI n)).bind fun r19 => some (r19.1, va_up r15.2 3 r19.2) := fun c _ => by
    show fb_X5_readDays_1 (fl_X5_readDays 999999999) (NN ν g r) (b2i ok) c = _
    unfold fb_X5_readDays_1
    rw [htk, Option.bind_some, show f_X5_two (NN ν ga r) 0 30 = some (nI v, NN ν g1 r) from k1, Option.bind_some, show f_X5_two (NN ν g1 r) 0 30 = some (nI u, NN ν g2 r) from k2, Option.bind_some, show f_X5_two (NN ν g2 r) 1 60 = some (nI n, NN ν g3 r) from k3, Option.bind_some]
    dsimp only
    rw [NN_3]
  have hrd : f_X5_readDays (NN ν g r) = fl_X5_readDays FU (NN ν g r) (b2i ok) (sgn w L (a + 1)) := by
    unfold f_X5_readDays
    rw [X5_here hw h, Option.bind_some]
    cases ok with
    | true =>
      have := hok rfl
      rw [this]
      cases neg with
      | false => exact if_pos rfl
      | true =>
        rw [if_neg (by decide)]
        exact if_pos rfl
    | false =>
      have := hno rfl
      rw [if_neg this.1, if_neg this.2]
      rfl
  rw [hrd, hbody _ hok]
  rcases days_cases (sgt neg (nI v)) (nI u) (nI n) hg with ⟨hl, hs⟩ | ⟨hl, hs, hr⟩ | ⟨hd, hs, hr⟩
  · exact absurd hwe hs
  · rw [hr, Option.bind_some]
    rcases hc with ⟨q1, q6, q2, q3, q4, q5⟩ | q
    · subst q6
      have e45 : (sgn w L (a + 1) = 45) ↔ neg = true := by
        rw [hok rfl]
        cases neg <;> decide
      refine rc_fin (fun x => f_X5_goDays x (sgt neg (nI v)) (nI u) (nI n)) hg (by omega) hX (fr_tr hf f2) ?_ (Or.inl ⟨q1, Or.inl ⟨3, ?_, rfl⟩⟩)
      · refine congrArg _ (funext fun r15 => ?_)
        cases neg with
        | false =>
          by_cases h0 : r15.1 = 0
          · rw [if_pos h0, if_pos h0]
          · rw [if_neg h0, if_neg h0, if_neg (fun e => by cases e45.mp e)]; rfl
        | true =>
          by_cases h0 : r15.1 = 0
          · rw [if_pos h0, if_pos h0]
          · rw [if_neg h0, if_neg h0, if_pos (e45.mpr rfl)]; rfl
      · rw [q2, q3, q4, q5, b4]; exact hl
    · have b5 : g3 11 = 0 := by
        obtain ⟨_, _, _, _, _, b5⟩ := q
        exact b5
      rw [goesb b5, Option.bind_some, if_pos rfl]
      exact rc_fin (can := 0) (fun x => none) hg (Nat.lt_succ_self a) hX (fr_tr hf f2) (by rw [goesb b5, Option.bind_some, if_pos rfl]) (Or.inr q)
  · rw [hr, Option.bind_some]
    rcases hc with ⟨q1, q6, q2, q3, q4, q5⟩ | q
    · subst q6
      have e45 : (sgn w L (a + 1) = 45) ↔ neg = true := by
        rw [hok rfl]
        cases neg <;> decide
      refine rc_fin (fun x => f_X5_goDays x (sgt neg (nI v)) (nI u) (nI n)) hg (by omega) hX (fr_tr hf f2) ?_ (Or.inl ⟨q1, Or.inr ⟨?_, rfl⟩⟩)
      · refine congrArg _ (funext fun r15 => ?_)
        cases neg with
        | false =>
          by_cases h0 : r15.1 = 0
          · rw [if_pos h0, if_pos h0]
          · rw [if_neg h0, if_neg h0, if_neg (fun e => by cases e45.mp e)]; rfl
        | true =>
          by_cases h0 : r15.1 = 0
          · rw [if_pos h0, if_pos h0]
          · rw [if_neg h0, if_neg h0, if_pos (e45.mpr rfl)]; rfl
      · rw [q2, q3, q4, q5, b4]; exact hd
    · have b5 : g3 11 = 0 := by
        obtain ⟨_, _, _, _, _, b5⟩ := q
        exact b5
      rw [goesb b5, Option.bind_some, if_pos rfl]
      exact rc_fin (can := 0) (fun x => none) hg (Nat.lt_succ_self a) hX (fr_tr hf f2) (by rw [goesb b5, Option.bind_some, if_pos rfl]) (Or.inr q)
