/-! kept, label by label, on the good way -/
theorem V_in {a b c : Int64} (h1 : b ≤ a) (h2 : a ≤ c) : f_L_in a b c = some 1 := by
  unfold f_L_in
  rw [if_neg (fun h => Int64.not_lt.mpr h1 ((lg_cmp_lt a b).mp h)), if_neg (fun h => Int64.not_lt.mpr h2 ((lg_cmp_gt a c).mp h))]
theorem cle0 {a : Nat} (ha : a < 2 ^ 63) : lg_cmp (nL a) 0 ≤ 0 ↔ a ≤ 0 := cle (b := 0) ha (by omega)
theorem clt0 {a : Nat} (ha : a < 2 ^ 63) : lg_cmp (nL a) 0 < 0 ↔ a < 0 := clt (b := 0) ha (by omega)
theorem cgt0 {a : Nat} (ha : a < 2 ^ 63) : 0 < lg_cmp (nL a) 0 ↔ 0 < a := cgt (b := 0) ha (by omega)
theorem ceq0 {a : Nat} (ha : a < 2 ^ 63) : lg_cmp (nL a) 0 = 0 ↔ a = 0 := ceq (b := 0) ha (by omega)
theorem ceq30 {a : Nat} (ha : a < 2 ^ 63) : lg_cmp (nL a) 30 = 0 ↔ a = 30 := ceq (b := 30) ha (by omega)
def k1 (μ : Mem) (n : Nat) (v1 v2 v6 : Int32) (w3 : Int64) : Option Int32 := fl_L_kept μ n 1 0 0 v1 0 0 0 0 v2 1 v6 0 0 0 0 0 w3 0 0
def k2 (μ : Mem) (n : Nat) (v1 v2 v6 : Int32) (w3 : Int64) : Option Int32 := fl_L_kept μ n 2 0 0 v1 0 0 0 0 v2 1 v6 0 0 0 0 0 w3 0 0
def k3 (μ : Mem) (n : Nat) (v1 v10 v11 v2 v6 v7 : Int32) (w3 w8 : Int64) : Option Int32 := fl_L_kept μ n 3 0 0 v1 v10 v11 0 0 v2 1 v6 v7 0 0 0 0 w3 0 w8
def k4 (μ : Mem) (n : Nat) (v1 v2 v6 : Int32) (w3 : Int64) : Option Int32 := fl_L_kept μ n 4 0 0 v1 0 0 0 0 v2 1 v6 0 0 0 0 0 w3 0 0
def k6 (μ : Mem) (n : Nat) (v1 v10 v11 v12 v2 v6 v7 : Int32) (w3 : Int64) : Option Int32 := fl_L_kept μ n 6 0 0 v1 v10 v11 v12 0 v2 1 v6 v7 0 0 0 0 w3 0 0
def k7 (μ : Mem) (n : Nat) (v1 v10 v11 v18 v2 v6 v7 : Int32) (w12 w14 w16 w3 : Int64) : Option Int32 := fl_L_kept μ n 7 0 0 v1 v10 v11 0 v18 v2 1 v6 v7 0 w12 w14 w16 w3 0 0
def k9 (μ : Mem) (n : Nat) (v1 v2 v8 : Int32) (w3 w6 : Int64) : Option Int32 := fl_L_kept μ n 9 0 0 v1 0 0 0 0 v2 1 0 0 v8 0 0 0 w3 w6 0
theorem s1_in {μ : Mem} {n m z N : Nat} {v1 v2 : Int32} {w3 : Int64} (h0 : f_L_about μ 0 = some (nL m)) (hz : z < m) (hm : m ≤ 4) (hl : f_L_layers μ (nI z) 0 = some (nL N)) (hN : N ≤ 30) : k1 μ (n + 1) v1 v2 (nI z) w3 = k3 μ n v1 0 0 v2 (nI z) (nI N) w3 0 := by
  show fb_L_kept_1 μ (fl_L_kept μ n) 0 0 v1 0 0 0 0 v2 1 (nI z) 0 0 0 0 0 w3 0 0 = _
  unfold fb_L_kept_1
  rw [h0, Option.bind_some, nI_L (by omega), if_neg (fun h => by rw [cge (by omega) (by omega)] at h; omega), if_neg i10, hl, Option.bind_some, nL_32 (by omega)]
  rfl
theorem s1_end {μ : Mem} {n m : Nat} {v1 v2 : Int32} {w3 : Int64} (h0 : f_L_about μ 0 = some (nL m)) (hm : m ≤ 4) : k1 μ (n + 1) v1 v2 (nI m) w3 = k2 μ n v1 v2 0 w3 := by
  show fb_L_kept_1 μ (fl_L_kept μ n) 0 0 v1 0 0 0 0 v2 1 (nI m) 0 0 0 0 0 w3 0 0 = _
  unfold fb_L_kept_1
  rw [h0, Option.bind_some, nI_L (by omega), if_pos ((cge (by omega) (by omega)).mpr (Nat.le_refl m))]
  rfl
theorem s3_end {μ : Mem} {n : Nat} {v1 v10 v2 v6 v7 : Int32} {w3 w8 : Int64} : k3 μ (n + 1) v1 v10 v7 v2 v6 v7 w3 w8 = k6 μ n v1 v10 0 0 v2 v6 v7 w3 := by
  show fb_L_kept_3 μ (fl_L_kept μ n) 0 0 v1 v10 v7 0 0 v2 1 v6 v7 0 0 0 0 w3 0 w8 = _
  unfold fb_L_kept_3
  rw [if_pos (Int32.le_refl v7)]
  rfl
def k8 (μ : Mem) (n : Nat) (v1 v10 v11 v2 v6 v7 : Int32) (w12 w14 w16 w3 : Int64) : Option Int32 := fl_L_kept μ n 8 0 0 v1 v10 v11 0 0 v2 0 v6 v7 0 w12 w14 w16 w3 0 0
theorem s8 {μ : Mem} {n q N c b g : Nat} {v1 v10 v2 v6 : Int32} {w3 : Int64} (hq : q < N) (hN : N ≤ 30) (hc : c < 100) (hb0 : 0 < b) (hb : b < 100) (hg : g < 100) (hgN : 0 < g ↔ q + 1 < N) :
    k8 μ (n + 3) v1 v10 (nI q) v2 v6 (nI N) (nL c) (nL b) (nL g) w3 = k7 μ n v1 v10 (nI q) (nI c) v2 v6 (nI N) (nL c) (nL b) (nL g) w3 := by
  show fb_L_kept_8 μ (fl_L_kept μ (n + 2)) 0 0 v1 v10 (nI q) 0 0 v2 0 v6 (nI N) 0 (nL c) (nL b) (nL g) w3 0 0 = _
  unfold fb_L_kept_8
  have e1 : nI q + 1 = nI (q + 1) := add_nI q 1
  have z0 : (0 : Int64) = nL 0 := rfl
  have s15 : ∀ t : Int32, fl_L_kept μ (n + 2) 15 t 0 v1 v10 (nI q) 0 0 v2 0 v6 (nI N) 0 (nL c) (nL b) (nL g) w3 0 0 = if nI N ≤ nI q + 1 then fl_L_kept μ (n + 1) 19 0 t v1 v10 (nI q) 0 0 v2 0 v6 (nI N) 0 (nL c) (nL b) (nL g) w3 0 0 else fl_L_kept μ (n + 1) 19 1 t v1 v10 (nI q) 0 0 v2 0 v6 (nI N) 0 (nL c) (nL b) (nL g) w3 0 0 := fun t => rfl
  have s19 : ∀ t u : Int32, t = u → fl_L_kept μ (n + 1) 19 u t v1 v10 (nI q) 0 0 v2 0 v6 (nI N) 0 (nL c) (nL b) (nL g) w3 0 0 = k7 μ n v1 v10 (nI q) (nI c) v2 v6 (nI N) (nL c) (nL b) (nL g) w3 := fun t u e => by
    show (if t = u then fl_L_kept μ n 7 0 0 v1 v10 (nI q) 0 (nL c).toInt32 v2 1 v6 (nI N) 0 (nL c) (nL b) (nL g) w3 0 0 else fl_L_kept μ n 7 0 0 v1 v10 (nI q) 0 (nL c).toInt32 v2 0 v6 (nI N) 0 (nL c) (nL b) (nL g) w3 0 0) = _
    rw [if_pos e, nL_32 (by omega)]
    rfl
  rw [if_neg (fun h => by rw [cle0 (by omega)] at h; omega)]
  by_cases h : 0 < g
  · rw [if_neg (fun h => by rw [cle0 (by omega)] at h; omega), s15, e1, if_neg (fun h2 => by rw [le_nI (by omega) (by omega)] at h2; have := hgN.mp h; omega), s19 _ _ rfl]
  · rw [if_pos ((cle0 (by omega)).mpr (by omega)), s15, e1, if_pos ((le_nI (by omega) (by omega)).mpr (by have := mt hgN.mpr h; omega)), s19 _ _ rfl]
theorem s3_in {μ : Mem} {n q N c b g : Nat} {v1 v10 v2 v6 : Int32} {w3 w8 : Int64} (hq : q < N) (hN : N ≤ 30) (hc : c < 100) (hb0 : 0 < b) (hb : b < 100) (hg : g < 100) (hgN : 0 < g ↔ q + 1 < N) (hw : q = 0 ∨ w8 = nL c)
    (l0 : f_L_layerOf μ v6 (nI q) 0 = some (nL c)) (l1 : f_L_layerOf μ v6 (nI q) 1 = some (nL b)) (l2 : f_L_layerOf μ v6 (nI q) 2 = some (nL g)) :
    k3 μ (n + 4) v1 v10 (nI q) v2 v6 (nI N) w3 w8 = k7 μ n v1 v10 (nI q) (nI c) v2 v6 (nI N) (nL c) (nL b) (nL g) w3 := by
  show fb_L_kept_3 μ (fl_L_kept μ (n + 3)) 0 0 v1 v10 (nI q) 0 0 v2 1 v6 (nI N) 0 0 0 0 w3 0 w8 = _
  unfold fb_L_kept_3
  have z0 : (0 : Int64) = nL 0 := rfl
  rw [if_neg (fun h => by rw [le_nI (by omega) (by omega)] at h; omega), if_neg i10, l0, Option.bind_some, l1, Option.bind_some, l2, Option.bind_some]
  by_cases q0 : q = 0
  · subst q0
    rw [if_pos (show nI 0 = 0 from rfl), if_neg (fun h => by rw [clt0 (by omega)] at h; omega)]
    exact s8 hq hN hc hb0 hb hg hgN
  · rw [if_neg (nI_ne0 (by omega) (by omega)), hw.resolve_left q0, if_pos (ceq_s _)]
    exact s8 hq hN hc hb0 hb hg hgN
theorem s7_in {μ : Mem} {n i c b : Nat} {v1 v10 v11 v2 v6 v7 : Int32} {w16 w3 x o : Int64} (hi : i < c + b) (hcb : c + b < 100) (hs : f_L_since μ v6 (nI i) = some x) (ho : f_L_layerOf μ v6 v11 3 = some o) (hx : o ≤ x) :
    k7 μ (n + 1) v1 v10 v11 (nI i) v2 v6 v7 (nL c) (nL b) w16 w3 = k7 μ n v1 v10 v11 (nI (i + 1)) v2 v6 v7 (nL c) (nL b) w16 w3 := by
  show fb_L_kept_7 μ (fl_L_kept μ n) 0 0 v1 v10 v11 0 (nI i) v2 1 v6 v7 0 (nL c) (nL b) w16 w3 0 0 = _
  unfold fb_L_kept_7
  have e1 : nI i + 1 = nI (i + 1) := add_nI i 1
  rw [nI_L (by omega), nL_add, if_neg (fun h => by rw [cge (by omega) (by omega)] at h; omega), if_neg i10, hs, Option.bind_some, ho, Option.bind_some, if_neg (fun h => Int64.not_lt.mpr hx ((lg_cmp_lt _ _).mp h)), e1]
  rfl
theorem s7_end {μ : Mem} {n c b g q : Nat} {v1 v10 v2 v6 v7 : Int32} {w3 : Int64} (hc : c < 100) (hb : b < 100) (hcb : c + b ≤ 30) (h1 : c = 0 ∨ f_L_since μ v6 (nI (c - 1)) = some (-1)) (h2 : c + b = 30 ∨ f_L_since μ v6 (nI (c + b)) = some (-1)) :
    k7 μ (n + 3) v1 v10 (nI q) (nI (c + b)) v2 v6 v7 (nL c) (nL b) (nL g) w3 = k3 μ n v1 (v10 + nI b) (nI (q + 1)) v2 v6 v7 w3 (nL (c + b + g)) := by
  show fb_L_kept_7 μ (fl_L_kept μ (n + 2)) 0 0 v1 v10 (nI q) 0 (nI (c + b)) v2 1 v6 v7 0 (nL c) (nL b) (nL g) w3 0 0 = _
  unfold fb_L_kept_7
  have z0 : (0 : Int64) = nL 0 := rfl
  have z30 : (30 : Int64) = nL 30 := rfl
  have s18 : fl_L_kept μ (n + 1) 18 0 0 v1 v10 (nI q) 0 0 v2 0 v6 v7 0 (nL c) (nL b) (nL g) w3 0 0 = k3 μ n v1 (v10 + nI b) (nI (q + 1)) v2 v6 v7 w3 (nL (c + b + g)) := by
    show fl_L_kept μ n 3 0 0 v1 (v10 + (nL b).toInt32) (nI q + 1) 0 0 v2 1 v6 v7 0 0 0 0 w3 0 (nL c + nL b + nL g) = _
    rw [nL_32 (by omega), nL_add, nL_add, show nI q + 1 = nI (q + 1) from add_nI q 1]
    rfl
  have s14 : fl_L_kept μ (n + 2) 14 0 0 v1 v10 (nI q) 0 0 v2 0 v6 v7 0 (nL c) (nL b) (nL g) w3 0 0 = k3 μ n v1 (v10 + nI b) (nI (q + 1)) v2 v6 v7 w3 (nL (c + b + g)) := by
    show fb_L_kept_14 μ (fl_L_kept μ (n + 1)) 0 0 v1 v10 (nI q) 0 0 v2 0 v6 v7 0 (nL c) (nL b) (nL g) w3 0 0 = _
    unfold fb_L_kept_14
    rw [nL_add]
    by_cases e : c + b = 30
    · rw [if_pos ((ceq30 (by omega)).mpr e), s18]
    · rw [if_neg (fun h => by rw [ceq30 (by omega)] at h; exact e h), nL_32 (by omega), h2.resolve_left e, Option.bind_some, if_pos ceq_mm, s18]
  rw [nI_L (by omega), nL_add, if_pos ((cge (by omega) (by omega)).mpr (Nat.le_refl _)), if_neg i10]
  by_cases e : c = 0
  · rw [if_pos ((ceq0 (by omega)).mpr e), s14]
  · obtain ⟨c', rfl⟩ : ∃ c', c = c' + 1 := ⟨c - 1, by omega⟩
    have h1' := h1.resolve_left e
    rw [Nat.add_sub_cancel] at h1'
    rw [if_neg (fun h => by rw [ceq0 (by omega)] at h; exact e h), nL_32 (by omega), nI_m1, h1', Option.bind_some, if_pos ceq_mm, s14]
theorem s6_in {μ : Mem} {n a i d q : Nat} {v1 v10 v2 v6 v7 : Int32} {w3 : Int64} {p : Bool} (hi : i < 30) (ha : a < 1000) (h3 : f_L_about μ 3 = some (nL d)) (hd : d ≤ 9999) (hq : q ≤ d)
    (hs : f_L_since μ v6 (nI i) = some (if p then nL q else -1)) :
    k6 μ (n + 2) v1 v10 (nI a) (nI i) v2 v6 v7 w3 = k6 μ n v1 v10 (nI (a + (if p then 1 else 0))) (nI (i + 1)) v2 v6 v7 w3 := by
  show fb_L_kept_6 μ (fl_L_kept μ (n + 1)) 0 0 v1 v10 (nI a) (nI i) 0 v2 1 v6 v7 0 0 0 0 w3 0 0 = _
  unfold fb_L_kept_6
  have e1 : nI i + 1 = nI (i + 1) := add_nI i 1
  have s12 : ∀ t : Nat, fl_L_kept μ (n + 1) 12 (nI t) (nI a) v1 v10 0 (nI i) 0 v2 1 v6 v7 0 0 0 0 w3 0 0 = k6 μ n v1 v10 (nI (a + t)) (nI (i + 1)) v2 v6 v7 w3 := fun t => by
    show fb_L_kept_12 μ (fl_L_kept μ n) (nI t) (nI a) v1 v10 0 (nI i) 0 v2 1 v6 v7 0 0 0 0 w3 0 0 = _
    unfold fb_L_kept_12
    rw [if_neg i10, hs, Option.bind_some, h3, Option.bind_some, add_nI, e1]
    cases p with
    | true =>
      rw [if_neg (show ¬ 0 < lg_cmp (if true = true then nL q else -1) (nL d) from fun h => by rw [if_pos rfl, cgt (by omega) (by omega)] at h; omega)]
      rfl
    | false =>
      rw [if_neg (show ¬ 0 < lg_cmp (if false = true then nL q else -1) (nL d) from fun h => by
        rw [if_neg (by decide), lg_cmp_gt] at h
        exact Int64.not_lt.mpr (Int64.le_of_lt (nL_gm (a := d) (by omega))) h)]
      rfl
  rw [if_neg (fun h => by rw [show (30 : Int32) = nI 30 from rfl, le_nI (by omega) (by omega)] at h; omega), hs, Option.bind_some]
  cases p with
  | true =>
    rw [if_neg (show ¬ lg_cmp (if true = true then nL q else -1) (-1) = 0 from fun h => by rw [if_pos rfl] at h; exact ceq_m (by omega) h)]
    exact s12 1
  | false =>
    rw [if_pos (show lg_cmp (if false = true then nL q else -1) (-1) = 0 from by rw [if_neg (by decide)]; exact ceq_mm)]
    exact s12 0
theorem s6_end {μ : Mem} {n f z N w a b : Nat} {v1 v2 x7 : Int32} {w3 : Int64} (hf : f ≤ 30) (hN : N ≤ 30) (hw : w ≤ 99) (ha : a < 1000000) (hb : b < 1000000) (hab : a = 0 ∨ b = 0) (h7 : x7 = -1 ↔ f = 0)
    (h5 : f_L_siteOf μ (nI z) 5 = some (nL f)) (hl : f_L_layers μ (nI z) 1 = some (nL N)) (h6 : f_L_siteOf μ (nI z) 6 = some (nL N)) (h0 : f_L_siteOf μ (nI z) 0 = some (nL w)) (h2 : f_L_siteOf μ (nI z) 2 = some (nL a)) (h3 : f_L_siteOf μ (nI z) 3 = some (nL b)) (hs7 : f_L_siteOf μ (nI z) 7 = some x7.toInt64) :
    k6 μ (n + 4) v1 (nI f) (nI f) (nI 30) v2 (nI z) (nI N) w3 = k1 μ n (v1 + nI f) (v2 + nI N) (nI (z + 1)) w3 := by
  show fb_L_kept_6 μ (fl_L_kept μ (n + 3)) 0 0 v1 (nI f) (nI f) (nI 30) 0 v2 1 (nI z) (nI N) 0 0 0 0 w3 0 0 = _
  unfold fb_L_kept_6
  have z0 : (0 : Int64) = nL 0 := rfl
  have e1 : nI z + 1 = nI (z + 1) := add_nI z 1
  have s20 : ∀ t u : Int32, t = u → fl_L_kept μ (n + 1) 20 u t v1 (nI f) 0 0 0 v2 0 (nI z) (nI N) 0 0 0 0 w3 0 0 = k1 μ n (v1 + nI f) (v2 + nI N) (nI (z + 1)) w3 := fun t u e => by
    show (if t = u then fl_L_kept μ n 1 0 0 (v1 + nI f) 0 0 0 0 (v2 + nI N) 1 (nI z + 1) 0 0 0 0 0 w3 0 0 else fl_L_kept μ n 1 0 0 (v1 + nI f) 0 0 0 0 (v2 + nI N) 0 (nI z + 1) 0 0 0 0 0 w3 0 0) = _
    rw [if_pos e, e1]
    rfl
  have s17 : ∀ t : Int32, fl_L_kept μ (n + 2) 17 t 0 v1 (nI f) 0 0 0 v2 0 (nI z) (nI N) 0 0 0 0 w3 0 0 = if nI f = 0 then fl_L_kept μ (n + 1) 20 1 t v1 (nI f) 0 0 0 v2 0 (nI z) (nI N) 0 0 0 0 w3 0 0 else fl_L_kept μ (n + 1) 20 0 t v1 (nI f) 0 0 0 v2 0 (nI z) (nI N) 0 0 0 0 w3 0 0 := fun t => rfl
  have m7 : lg_cmp x7.toInt64 (-1) = 0 ↔ x7 = -1 := by
    rw [lg_cmp_eq, ← m1_L, ← Int64.toInt_inj, Int32.toInt_toInt64, Int32.toInt_toInt64, Int32.toInt_inj]
  have s11 : fl_L_kept μ (n + 3) 11 0 0 v1 (nI f) 0 0 0 v2 0 (nI z) (nI N) 0 0 0 0 w3 0 0 = k1 μ n (v1 + nI f) (v2 + nI N) (nI (z + 1)) w3 := by
    show fb_L_kept_11 μ (fl_L_kept μ (n + 2)) 0 0 v1 (nI f) 0 0 0 v2 0 (nI z) (nI N) 0 0 0 0 w3 0 0 = _
    unfold fb_L_kept_11
    rw [h2, Option.bind_some, if_neg (fun h => by rw [clt0 (by omega)] at h; omega), h3, Option.bind_some, if_neg (fun h => by rw [clt0 (by omega)] at h; omega), hs7, Option.bind_some]
    by_cases e : x7 = -1
    · rw [if_pos (m7.mpr e), s17, h7.mp e, if_pos (show nI 0 = 0 from rfl), ← h7.mp e, s20 _ _ rfl]
    · rw [if_neg (fun h => e (m7.mp h)), s17, if_neg (nI_ne0 (by have := mt h7.mpr e; omega) (by omega)), s20 _ _ rfl]
  rw [if_pos (show (30 : Int32) ≤ nI 30 from Int32.le_refl _), if_neg i10, if_pos rfl, h5, Option.bind_some, nI_L (by omega), if_pos (ceq_s _), hl, Option.bind_some, nI_L (by omega), if_pos (ceq_s _), h6, Option.bind_some, if_pos (ceq_s _), h0, Option.bind_some, V_in (a := nL w) (b := 0) (c := 99) ((nL_le (a := 0) (b := w) (by omega) (by omega)).mpr (Nat.zero_le w)) ((nL_le (b := 99) (by omega) (by omega)).mpr hw), Option.bind_some, if_neg i10, h2, Option.bind_some]
  by_cases ea : a = 0
  · rw [if_pos ((ceq0 (by omega)).mpr ea)]
    exact s11
  · rw [if_neg (fun h => by rw [ceq0 (by omega)] at h; exact ea h), h3, Option.bind_some, if_pos ((ceq0 (by omega)).mpr (hab.resolve_left ea))]
    exact s11
/-! tubes -/
theorem s2_end {μ : Mem} {n m : Nat} {v1 v2 : Int32} {w3 : Int64} (h0 : f_L_about μ 1 = some (nL m)) (hm : m ≤ 8) : k2 μ (n + 1) v1 v2 (nI m) w3 = k4 μ n v1 v2 0 w3 := by
  show fb_L_kept_2 μ (fl_L_kept μ n) 0 0 v1 0 0 0 0 v2 1 (nI m) 0 0 0 0 0 w3 0 0 = _
  unfold fb_L_kept_2
  rw [h0, Option.bind_some, nI_L (by omega), if_pos ((cge (by omega) (by omega)).mpr (Nat.le_refl m))]
  rfl
theorem s2_in {μ : Mem} {n m t z l f f3 N N3 : Nat} {v1 v2 x4 x7 : Int32} {w3 : Int64} (h0 : f_L_about μ 1 = some (nL m)) (hm : m ≤ 8) (ht : t < m) (hl : l ≤ 30) (hf : f ≤ l) (hff : f ≤ f3) (hf3 : f3 ≤ 30) (hNN : N ≤ N3) (hN3 : N3 ≤ 30) (hz : z < 4) (h4 : x4 < nI l)
    (t0 : f_L_tubeOf μ (nI t) 0 = some (nL z)) (t1 : f_L_tubeOf μ (nI t) 1 = some (nL l)) (t2 : f_L_tubeOf μ (nI t) 2 = some (nL f)) (t3 : f_L_tubeOf μ (nI t) 3 = some (nL N)) (t4 : f_L_tubeOf μ (nI t) 4 = some x4.toInt64) (t5 : f_L_tubeOf μ (nI t) 5 = some (if x7 < nI l then (0 : Int32) else 1).toInt64)
    (q5 : f_L_siteOf μ (nI z) 5 = some (nL f3)) (q6 : f_L_siteOf μ (nI z) 6 = some (nL N3)) (q7 : f_L_siteOf μ (nI z) 7 = some x7.toInt64) :
    k2 μ (n + 3) v1 v2 (nI t) w3 = k2 μ n v1 v2 (nI (t + 1)) w3 := by
  show fb_L_kept_2 μ (fl_L_kept μ (n + 2)) 0 0 v1 0 0 0 0 v2 1 (nI t) 0 0 0 0 0 w3 0 0 = _
  unfold fb_L_kept_2
  have e1 : nI t + 1 = nI (t + 1) := add_nI t 1
  have s10 : ∀ a b : Int32, a = b → fl_L_kept μ (n + 1) 10 b a v1 0 0 0 0 v2 0 (nI t) 0 0 0 0 0 w3 0 0 = k2 μ n v1 v2 (nI (t + 1)) w3 := fun a b e => by
    show fb_L_kept_10 μ (fl_L_kept μ n) b a v1 0 0 0 0 v2 0 (nI t) 0 0 0 0 0 w3 0 0 = _
    unfold fb_L_kept_10
    rw [if_pos e, t4, Option.bind_some, t1, Option.bind_some, if_neg (fun h => by
      rw [lg_cmp_ge, ← nI_L (by omega), i64_le] at h
      exact Int32.not_lt.mpr h h4), e1]
    rfl
  have c5 : lg_cmp x7.toInt64 (nL l) < 0 ↔ x7 < nI l := by
    rw [lg_cmp_lt, ← nI_L (by omega), ← Int64.not_le, i64_le, Int32.not_le]
  have s5 : ∀ a : Int32, fl_L_kept μ (n + 2) 5 a 0 v1 0 0 0 0 v2 0 (nI t) (nI z) 0 0 0 0 w3 0 0 = if x7 < nI l then fl_L_kept μ (n + 1) 10 0 a v1 0 0 0 0 v2 0 (nI t) 0 0 0 0 0 w3 0 0 else fl_L_kept μ (n + 1) 10 1 a v1 0 0 0 0 v2 0 (nI t) 0 0 0 0 0 w3 0 0 := fun a => by
    show fb_L_kept_5 μ (fl_L_kept μ (n + 1)) a 0 v1 0 0 0 0 v2 0 (nI t) (nI z) 0 0 0 0 w3 0 0 = _
    unfold fb_L_kept_5
    rw [q7, Option.bind_some, t1, Option.bind_some]
    by_cases e : x7 < nI l
    · rw [if_pos (c5.mpr e), if_pos e]
    · rw [if_neg (fun h => e (c5.mp h)), if_neg e]
  rw [h0, Option.bind_some, nI_L (by omega), if_neg (fun h => by rw [cge (by omega) (by omega)] at h; omega), if_neg i10, t0, Option.bind_some, t2, Option.bind_some, t1, Option.bind_some, if_neg (fun h => by rw [cgt (by omega) (by omega)] at h; omega), Option.bind_some, nL_32 (by omega), q5, Option.bind_some, if_neg (fun h => by rw [cgt (by omega) (by omega)] at h; omega), t3, Option.bind_some, q6, Option.bind_some, if_neg (fun h => by rw [cgt (by omega) (by omega)] at h; omega), t5, Option.bind_some]
  by_cases e : x7 < nI l
  · rw [if_pos e, if_neg (by decide), s5, if_pos e]
    exact s10 _ _ rfl
  · rw [if_neg e, if_pos (by decide), s5, if_neg e]
    exact s10 _ _ rfl
/-! pipes -/
theorem s4_end {μ : Mem} {n m : Nat} {v1 v2 : Int32} {w3 : Int64} (h0 : f_L_about μ 2 = some (nL m)) (hm : m ≤ 8) : k4 μ (n + 1) v1 v2 (nI m) w3 = k9 μ n v1 v2 0 w3 0 := by
  show fb_L_kept_4 μ (fl_L_kept μ n) 0 0 v1 0 0 0 0 v2 1 (nI m) 0 0 0 0 0 w3 0 0 = _
  unfold fb_L_kept_4
  rw [h0, Option.bind_some, nI_L (by omega), if_pos ((cge (by omega) (by omega)).mpr (Nat.le_refl m))]
  rfl
theorem s4_in {μ : Mem} {n m p x g c : Nat} {v1 v2 : Int32} {w3 : Int64} (h0 : f_L_about μ 2 = some (nL m)) (hm : m ≤ 8) (hp : p < m) (hg : g < 2147483648) (hc : c < 2147483648) (hxg : x ≤ g) (hcg : 0 < c ∨ g = 0)
    (p2 : f_L_pipeOf μ (nI p) 2 = some (nL x)) (p3 : f_L_pipeOf μ (nI p) 3 = some (nL g)) (p4 : f_L_pipeOf μ (nI p) 4 = some (nL c)) :
    k4 μ (n + 1) v1 v2 (nI p) w3 = k4 μ n v1 v2 (nI (p + 1)) (w3 + nL x) := by
  show fb_L_kept_4 μ (fl_L_kept μ n) 0 0 v1 0 0 0 0 v2 1 (nI p) 0 0 0 0 0 w3 0 0 = _
  unfold fb_L_kept_4
  have z0 : (0 : Int64) = nL 0 := rfl
  have e1 : nI p + 1 = nI (p + 1) := add_nI p 1
  rw [h0, Option.bind_some, nI_L (by omega), if_neg (fun h => by rw [cge (by omega) (by omega)] at h; omega), if_neg i10, p2, Option.bind_some, Option.bind_some, p3, Option.bind_some, V_in (a := nL x) (b := 0) (c := nL g) ((nL_le (a := 0) (b := x) (by omega) (by omega)).mpr (Nat.zero_le x)) ((nL_le (by omega) (by omega)).mpr hxg), Option.bind_some, if_neg i10, p4, Option.bind_some, e1]
  by_cases e : 0 < c
  · rw [if_pos ((cgt0 (by omega)).mpr e)]
    rfl
  · rw [if_neg (fun h => by rw [cgt0 (by omega)] at h; exact e h), Option.bind_some, if_pos ((ceq0 (by omega)).mpr (hcg.resolve_left e))]
    rfl
/-! the oldest cells, and the end -/
theorem s9_in {μ : Mem} {n k C s c q l : Nat} {v2 : Int32} {w3 : Int64} (hk : k < C) (hC : C < 1000) (hs : s < 4) (hc : c < 30) (hl : l ≤ q) (hq0 : 0 < q) (hq : q < 100000) (ho : f_L_oldest μ (nI k) = some (nL (100 * s + c))) (hsi : f_L_since μ (nI s) (nI c) = some (nL q)) :
    k9 μ (n + 1) (nI C) v2 (nI k) w3 (nL l) = k9 μ n (nI C) v2 (nI (k + 1)) w3 (nL q) := by
  show fb_L_kept_9 μ (fl_L_kept μ n) 0 0 (nI C) 0 0 0 0 v2 1 0 0 (nI k) 0 0 0 w3 (nL l) 0 = _
  unfold fb_L_kept_9
  have z0 : (0 : Int64) = nL 0 := rfl
  have e1 : nI k + 1 = nI (k + 1) := add_nI k 1
  have d1 : nI (100 * s + c) / 100 = nI s := by
    rw [show (100 : Int32) = nI 100 from rfl, pk_div (by omega) (by omega) (by omega), show (100 * s + c) / 100 = s by omega]
  have d2 : nI (100 * s + c) - nI s * 100 = nI c := by
    rw [show (100 : Int32) = nI 100 from rfl, mul_nI, sub_nI (by omega), show 100 * s + c - s * 100 = c by omega]
  rw [if_neg (fun h => by rw [le_nI (by omega) (by omega)] at h; omega), if_neg i10, ho, Option.bind_some, nL_32 (by omega), d1, d2, hsi, Option.bind_some, if_neg (fun h => by rw [clt (by omega) (by omega)] at h; omega), if_neg (fun h => by rw [cle0 (by omega)] at h; omega), e1]
  rfl
theorem s9_end {μ : Mem} {n C A : Nat} {v : Int32} {w3 w6 : Int64} (hC : C < 1000) (hA : A < 1000) (hd : f_X4_deepest μ = some v) (h4 : f_L_about μ 4 = some (nL C)) (h5 : f_L_about μ 5 = some (nL A)) (h8 : f_L_about μ 8 = some w3) (hv : (C = 0 ∧ v = -1) ∨ (0 < C ∧ ∃ f, 0 < f ∧ f ≤ 30 ∧ f_L_siteOf μ v 5 = some (nL f))) :
    k9 μ (n + 2) (nI C) (nI A) (nI C) w3 w6 = some 1 := by
  show fb_L_kept_9 μ (fl_L_kept μ (n + 1)) 0 0 (nI C) 0 0 0 0 (nI A) 1 0 0 (nI C) 0 0 0 w3 w6 0 = _
  unfold fb_L_kept_9
  rw [if_pos (Int32.le_refl _)]
  show fb_L_kept_16 μ (fl_L_kept μ n) 0 0 (nI C) 0 0 0 0 (nI A) 1 0 0 0 0 0 0 w3 0 0 = _
  unfold fb_L_kept_16
  have z0 : (0 : Int64) = nL 0 := rfl
  rw [hd, Option.bind_some, if_neg i10, h4, Option.bind_some, nI_L (by omega), if_pos (ceq_s _), h5, Option.bind_some, nI_L (by omega), if_pos (ceq_s _), h8, Option.bind_some, if_pos (ceq_s _)]
  rcases hv with ⟨e1, e2⟩ | ⟨e1, f, f1, f2, f3⟩
  · subst e1
    rw [if_pos (show nI 0 = 0 from rfl), if_pos e2]
  · rw [if_neg (nI_ne0 e1 (by omega)), f3, Option.bind_some, if_neg (fun h => by rw [cle0 (by omega)] at h; omega)]
