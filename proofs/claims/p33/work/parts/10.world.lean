abbrev vwCl : List vw_C := [(RX0, TX0, 15), (RX1, TX1, 3), (RX2, TX2, 6), (RX3, TX3, 8), (RX4, TX4, 7)]
/-! THE WORLD OF THE CLASS: 349 cells from x on, made in one go by the constructor; all its ints by regions: 0 to 18 the grounds (rows of 205, laid as in the reference), 19 the text, 20 the past's two numbers, 21 the slots' flags. -/
abbrev Row : Type := Nat → Int32
abbrev Mem : Type := Nat → Nat → Int32
def gb (i : Nat) : Nat := 18 * i + (if i < 3 then 3 else if i < 17 then 5 else 7)
def sb (i s : Nat) : Nat := gb i + (10 + 2 * s)
def gk (i0 d : Nat) : Nat × Nat × Nat := if d % 18 < 10 then (10 + d % 18, i0 + d / 18, 0) else if d % 2 = 0 then (20, i0 + d / 18, (d % 18 - 10) / 2) else (21, i0 + d / 18, (d % 18 - 11) / 2)
def kd (o : Nat) : Nat × Nat × Nat := if o = 0 then (0, 0, 0) else if o < 2 then (1, 0, 0) else if o < 3 then (2, 0, 0) else if o < 57 then gk 0 (o - 3) else if o < 58 then (3, 0, 0) else if o < 59 then (4, 0, 0) else if o < 311 then gk 3 (o - 59) else if o < 312 then (5, 0, 0) else if o < 313 then (6, 0, 0) else gk 17 (o - 313)
def rg (q : Nat × Nat × Nat) : Nat := match q.1 with
  | 1 => 19
  | 2 => 19
  | 3 => 20
  | 6 => 21
  | _ => q.2.1
def ix (q : Nat × Nat × Nat) (j : Nat) : Nat := match q.1 with
  | 1 => 130 + j
  | 10 => 196 + j
  | 11 => 202 + j
  | 13 => 140 + 2 * j
  | 14 => 141 + 2 * j
  | 15 => 156 + 5 * j
  | 16 => 157 + 5 * j
  | 17 => 158 + 5 * j
  | 18 => 159 + 5 * j
  | 19 => 160 + 5 * j
  | 20 => 35 * q.2.2 + j
  | 21 => 35 * q.2.2 + (5 + j)
  | _ => j
def ln (q : Nat × Nat × Nat) : Nat := match q.1 with
  | 1 => 8
  | 2 => 120
  | 3 => 2
  | 6 => 2
  | 10 => 6
  | 11 => 3
  | 13 => 8
  | 14 => 8
  | 15 => 8
  | 16 => 8
  | 17 => 8
  | 18 => 8
  | 19 => 8
  | 20 => 5
  | 21 => 30
  | _ => 0
def iv (r k : Nat) : Nat × Nat := if r < 19 then (if k < 140 then (if k % 35 < 5 then (sb r (k / 35), k % 35) else (sb r (k / 35) + 1, k % 35 - 5)) else if k < 156 then (gb r + 3 + k % 2, (k - 140) / 2) else if k < 196 then (gb r + 5 + (k - 156) % 5, (k - 156) / 5) else if k < 202 then (gb r, k - 196) else (gb r + 1, k - 202)) else if r = 19 then (if k < 120 then (2, k) else (1, k - 130)) else if r = 20 then (57, k) else (312, k)
theorem iv_ok : ∀ o, o < 349 → ∀ j, j < ln (kd o) → iv (rg (kd o)) (ix (kd o) j) = (o, j) := by decide +kernel
def vals (μ : Mem) (q : Nat × Nat × Nat) : Row := fun j => if j < ln q then μ (rg q) (ix q j) else 0
def mk (D : va_G) (x : Nat) (q : Nat × Nat × Nat) (f : Row) : va_E := match q.1 with
  | 0 => .inr (4, [.ref (x + 1), .ref (x + gb 0), .ref (x + gb 1), .ref (x + gb 2), .ref (x + 57), .ref (x + 311), .ref (x + 312)])
  | 1 => .inr (3, [.ref (x + 2), .int (f 1), .int (f 2), .int (f 3), .int (f 4), .int (f 5), .int (f 6), .int (f 7)])
  | 2 => .inl (D.1 6, (120, .inl f))
  | 3 => .inr (1, [.int (f 0), .int (f 1), .ref (x + 58)])
  | 4 => .inl (D.1 8, (14, .inr (.inr (.inr (.inr (fun j => some (x + gb (3 + j))))))))
  | 5 => .inl (D.1 8, (2, .inr (.inr (.inr (.inr (fun j => some (x + gb (17 + j))))))))
  | 6 => .inl (D.1 7, (2, .inl f))
  | 10 => .inr (0, [.int (f 0), .int (f 1), .int (f 2), .int (f 3), .int (f 4), .int (f 5), .ref (x + (gb q.2.1 + 1)), .ref (x + (gb q.2.1 + 2)), .ref (x + (gb q.2.1 + 3)), .ref (x + (gb q.2.1 + 4)), .ref (x + (gb q.2.1 + 5)), .ref (x + (gb q.2.1 + 6)), .ref (x + (gb q.2.1 + 7)), .ref (x + (gb q.2.1 + 8)), .ref (x + (gb q.2.1 + 9))])
  | 11 => .inl (D.1 6, (3, .inl f))
  | 12 => .inl (D.1 9, (4, .inr (.inr (.inr (.inr (fun j => some (x + sb q.2.1 j)))))))
  | 20 => .inr (2, [.int (f 0), .int (f 1), .int (f 2), .int (f 3), .int (f 4), .ref (x + (sb q.2.1 q.2.2 + 1))])
  | 21 => .inl (D.1 6, (30, .inl f))
  | _ => .inl (D.1 6, (8, .inl f))
def cellX (D : va_G) (x : Nat) (μ : Mem) (o : Nat) : va_E := mk D x (kd o) (vals μ (kd o))
def WL (D : va_G) (x : Nat) (μ : Mem) : va_W := (List.range 349).map fun o => (x + o, cellX D x μ o)
def rng (x : Nat) (q : Nat) : Prop := x ≤ q ∧ q < x + 349
def tyX (D : va_G) : List (ClassId × FieldType) := [(D.1 6, .int), (D.1 7, .boolean), (D.1 8, .object RX0), (D.1 9, .object RX2)]
theorem kd_G : ∀ i, i < 19 → ∀ c, c < 10 → kd (gb i + c) = (10 + c, i, 0) := by decide +kernel
theorem kd_S : ∀ i, i < 19 → ∀ s, s < 4 → kd (sb i s) = (20, i, s) := by decide +kernel
theorem kd_A : ∀ i, i < 19 → ∀ s, s < 4 → kd (sb i s + 1) = (21, i, s) := by decide +kernel
theorem gb_lt : ∀ i, i < 19 → gb i + 17 < 349 := by decide +kernel
theorem o_G {i : Nat} (hi : i < 19) {c : Nat} (hc : c < 10) : gb i + c < 349 := by have := gb_lt i hi; omega
theorem o_S {i s : Nat} (hi : i < 19) (hs : s < 4) : sb i s < 349 := by have := gb_lt i hi; unfold sb; omega
theorem o_A {i s : Nat} (hi : i < 19) (hs : s < 4) : sb i s + 1 < 349 := by have := gb_lt i hi; unfold sb; omega
theorem mu_self {α : Type} (f : Nat → α) (k : Nat) : va_up f k (f k) = f := by funext j; unfold va_up; by_cases h : j = k <;> simp [h]
theorem mu_at {α : Type} (f : Nat → α) (k : Nat) (v : α) : va_up f k v k = v := by simp [va_up]
theorem mu_off {α : Type} (f : Nat → α) {j k : Nat} (v : α) (h : j ≠ k) : va_up f k v j = f j := by simp [va_up, h]
theorem WL_len (D : va_G) (x : Nat) (μ : Mem) : (WL D x μ).length = 349 := by simp [WL]
theorem WL_at {D : va_G} {x : Nat} {μ : Mem} {o : Nat} (ho : o < 349) {q : Nat × Nat × Nat} (hk : kd o = q) : (WL D x μ)[o]? = some (x + o, mk D x q (vals μ q)) := by
  subst hk
  rw [WL, List.getElem?_map, List.getElem?_range ho]
  rfl
theorem WL_D (D : va_G) (x : Nat) (μ : Mem) : va_D (rng x) (WL D x μ) := by
  have key : ∀ (k : Nat) (q : Nat × va_E), (WL D x μ)[k]? = some q → k < 349 ∧ q.1 = x + k := by
    intro k q h
    have hk : k < 349 := by
      have := (List.getElem?_eq_some_iff.mp h).1
      rwa [WL_len] at this
    rw [WL_at hk rfl] at h
    cases h
    exact ⟨hk, rfl⟩
  refine ⟨fun i j p q hi hj e => ?_, fun k q hk => ?_⟩
  · have h1 := (key i p hi).2
    have h2 := (key j q hj).2
    omega
  · obtain ⟨h1, h2⟩ := key k q hk
    rw [h2]
    exact ⟨by omega, by omega⟩
theorem vals_congr {μ μ' : Mem} {q : Nat × Nat × Nat} (h : ∀ j, j < ln q → μ' (rg q) (ix q j) = μ (rg q) (ix q j)) : vals μ' q = vals μ q := by
  funext j
  unfold vals
  by_cases hj : j < ln q
  · rw [if_pos hj, if_pos hj, h j hj]
  · rw [if_neg hj, if_neg hj]
/-- a change that touches one cell's own places alone -/
theorem WL_set_gen {D : va_G} {x : Nat} {μ μ' : Mem} {o : Nat} (ho : o < 349) {q : Nat × Nat × Nat} (hk : kd o = q)
    (h : ∀ o2, o2 < 349 → o2 ≠ o → ∀ j, j < ln (kd o2) → μ' (rg (kd o2)) (ix (kd o2) j) = μ (rg (kd o2)) (ix (kd o2) j)) :
    (WL D x μ).set o (x + o, mk D x q (vals μ' q)) = WL D x μ' := by
  subst hk
  apply List.ext_getElem?
  intro k
  by_cases hk : k < 349
  · rw [WL_at (μ := μ') hk rfl]
    by_cases e : k = o
    · subst e
      rw [List.getElem?_set_self (by rw [WL_len]; exact hk)]
    · rw [List.getElem?_set_ne (Ne.symm e), WL_at hk rfl, vals_congr (h k hk e)]
  · rw [List.getElem?_eq_none (by rw [List.length_set, WL_len]; omega), List.getElem?_eq_none (by rw [WL_len]; omega)]
theorem WL_set {D : va_G} {x : Nat} {μ : Mem} {i : Nat} {g : Row} {o : Nat} (ho : o < 349) {q : Nat × Nat × Nat} (hk : kd o = q) (hr : rg q = i) {j : Nat} (hj : j < ln q) (v : Int32) :
    (WL D x (va_up μ i g)).set o (x + o, mk D x q (upd (vals (va_up μ i g) q) j v)) = WL D x (va_up μ i (upd g (ix q j) v)) := by
  have e : upd (vals (va_up μ i g) q) j v = vals (va_up μ i (upd g (ix q j) v)) q := by
    funext k
    unfold vals
    rw [hr, mu_at, mu_at]
    by_cases hkj : k = j
    · subst hkj
      rw [pk_us, if_pos hj, pk_us]
    · rw [pk_un hkj]
      by_cases hl : k < ln q
      · rw [if_pos hl, if_pos hl]
        have h1 := iv_ok o ho k (by rw [hk]; exact hl)
        have h2 := iv_ok o ho j (by rw [hk]; exact hj)
        rw [hk] at h1 h2
        have hne : ix q k ≠ ix q j := fun z => by
          rw [z, h2] at h1
          injection h1 with a b
          exact hkj b.symm
        rw [pk_un hne]
      · rw [if_neg hl, if_neg hl]
  rw [e]
  refine WL_set_gen ho hk fun o2 ho2 hne k hl => ?_
  by_cases hri : rg (kd o2) = i
  · rw [hri, mu_at, mu_at]
    have h1 := iv_ok o2 ho2 k hl
    have h2 := iv_ok o ho j (by rw [hk]; exact hj)
    rw [hk, hr] at h2
    rw [hri] at h1
    have hne2 : ix (kd o2) k ≠ ix q j := fun z => by
      rw [z, h2] at h1
      injection h1 with a b
      exact hne a.symm
    rw [pk_un hne2]
  · rw [mu_off _ _ hri, mu_off _ _ hri]
theorem WL_up (D : va_G) (x : Nat) (μ : Mem) (i : Nat) : WL D x μ = WL D x (va_up μ i (μ i)) := by rw [mu_self]
theorem vals_at {μ : Mem} {q : Nat × Nat × Nat} {g : Row} {r : Nat} (hr : rg q = r) (hg : μ r = g) {j : Nat} (hj : j < ln q) : vals μ q j = g (ix q j) := by
  unfold vals
  rw [if_pos hj, hr, hg]
def ow (k : Nat) : Nat × Nat := if k < 140 then (if k % 35 < 5 then (20, k / 35) else (21, k / 35)) else if k < 156 then (13 + k % 2, 0) else if k < 196 then (15 + (k - 156) % 5, 0) else if k < 202 then (10, 0) else (11, 0)
theorem ow_ok : ∀ o, o < 349 → 10 ≤ (kd o).1 → ∀ j, j < ln (kd o) → ow (ix (kd o) j) = ((kd o).1, (kd o).2.2) := by decide +kernel
theorem kd_big : ∀ o, o < 349 → rg (kd o) < 19 → 0 < ln (kd o) → 10 ≤ (kd o).1 ∧ rg (kd o) = (kd o).2.1 := by decide +kernel
/-- a row of the one ground is put into the other: the cells of one kind -/
def cpy (K z : Nat) (o g : Row) : Row := fun k => if ow k = (K, z) then o k else g k
/-! THE WORLD OF THE REFERENCE: 8 cells from y on; its ints by cell and slot. -/
def lnM (o : Nat) : Nat := match o with
  | 0 => 13
  | 1 => 205
  | 2 => 205
  | 3 => 205
  | 4 => 2870
  | 5 => 410
  | 6 => 2
  | _ => 120
def valsM (ν : Mem) (o : Nat) : Row := fun j => if j < lnM o then ν o j else 0
def mkM (D : va_G) (y : Nat) (o : Nat) (f : Row) : va_E := match o with
  | 0 => .inr (5, [.int (f 0), .ref (y + 1), .ref (y + 2), .ref (y + 3), .ref (y + 4), .int (f 5), .ref (y + 5), .ref (y + 6), .ref (y + 7), .int (f 9), .int (f 10), .int (f 11), .int (f 12)])
  | 1 => .inl (D.1 6, (205, .inl f))
  | 2 => .inl (D.1 6, (205, .inl f))
  | 3 => .inl (D.1 6, (205, .inl f))
  | 4 => .inl (D.1 6, (2870, .inl f))
  | 5 => .inl (D.1 6, (410, .inl f))
  | 6 => .inl (D.1 7, (2, .inl f))
  | _ => .inl (D.1 6, (120, .inl f))
def WM (D : va_G) (y : Nat) (ν : Mem) : va_W := (List.range 8).map fun o => (y + o, mkM D y o (valsM ν o))
def rngM (y : Nat) (q : Nat) : Prop := y ≤ q ∧ q < y + 8
theorem WM_len (D : va_G) (y : Nat) (ν : Mem) : (WM D y ν).length = 8 := by simp [WM]
theorem WM_at {D : va_G} {y : Nat} {ν : Mem} {o : Nat} (ho : o < 8) : (WM D y ν)[o]? = some (y + o, mkM D y o (valsM ν o)) := by
  rw [WM, List.getElem?_map, List.getElem?_range ho]
  rfl
theorem WM_D (D : va_G) (y : Nat) (ν : Mem) : va_D (rngM y) (WM D y ν) := by
  have key : ∀ (k : Nat) (q : Nat × va_E), (WM D y ν)[k]? = some q → k < 8 ∧ q.1 = y + k := by
    intro k q h
    have hk : k < 8 := by
      have := (List.getElem?_eq_some_iff.mp h).1
      rwa [WM_len] at this
    rw [WM_at hk] at h
    cases h
    exact ⟨hk, rfl⟩
  refine ⟨fun i j p q hi hj e => ?_, fun k q hk => ?_⟩
  · have h1 := (key i p hi).2
    have h2 := (key j q hj).2
    omega
  · obtain ⟨h1, h2⟩ := key k q hk
    rw [h2]
    exact ⟨by omega, by omega⟩
theorem WM_set {D : va_G} {y : Nat} {ν : Mem} {o : Nat} {g : Row} (ho : o < 8) {j : Nat} (hj : j < lnM o) (v : Int32) :
    (WM D y (va_up ν o g)).set o (y + o, mkM D y o (upd (valsM (va_up ν o g) o) j v)) = WM D y (va_up ν o (upd g j v)) := by
  have e : upd (valsM (va_up ν o g) o) j v = valsM (va_up ν o (upd g j v)) o := by
    funext k
    unfold valsM
    rw [mu_at, mu_at]
    by_cases hkj : k = j
    · subst hkj
      rw [pk_us, if_pos hj, pk_us]
    · rw [pk_un hkj, pk_un hkj]
  rw [e]
  apply List.ext_getElem?
  intro k
  by_cases hk : k < 8
  · rw [WM_at (ν := va_up ν o (upd g j v)) hk]
    by_cases e : k = o
    · subst e
      rw [List.getElem?_set_self (by rw [WM_len]; exact hk)]
    · rw [List.getElem?_set_ne (Ne.symm e), WM_at hk]
      unfold valsM
      rw [mu_off _ _ e, mu_off _ _ e]
  · rw [List.getElem?_eq_none (by rw [List.length_set, WM_len]; omega), List.getElem?_eq_none (by rw [WM_len]; omega)]
theorem WM_up (D : va_G) (y : Nat) (ν : Mem) (o : Nat) : WM D y ν = WM D y (va_up ν o (ν o)) := by rw [mu_self]
theorem valsM_at {ν : Mem} {o : Nat} {g : Row} (hg : ν o = g) {j : Nat} (hj : j < lnM o) : valsM ν o j = g j := by
  unfold valsM
  rw [if_pos hj, hg]
