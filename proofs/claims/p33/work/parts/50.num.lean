/-! numbers of the pure part: what lies in range is nI of a natural number -/
theorem lit_nI (n : Nat) : (OfNat.ofNat n : Int32) = nI n := rfl
theorem oob_nI {k n : Nat} (hk : k < 2147483648) : oob (nI k) n ↔ n ≤ k := by
  unfold oob
  rw [nI_clamp hk]
  exact ⟨fun h => h.elim (fun h => absurd h (nI_pos hk)) id, Or.inr⟩
theorem le_nI {a b : Nat} (ha : a < 2147483648) (hb : b < 2147483648) : nI a ≤ nI b ↔ a ≤ b := nI_leI ha hb
theorem lt_nI {a b : Nat} (ha : a < 2147483648) (hb : b < 2147483648) : nI a < nI b ↔ a < b := nI_ltI ha hb
theorem eq_nI {a b : Nat} (ha : a < 2147483648) (hb : b < 2147483648) : nI a = nI b ↔ a = b := nI_eq ha hb
theorem cl_nI {a : Nat} (ha : a < 2147483648) : (nI a).toNatClampNeg = a := nI_clamp ha
theorem sub_nI {a b : Nat} (h : b ≤ a) : nI a - nI b = nI (a - b) := pk_sub h
theorem add_nI (a b : Nat) : nI a + nI b = nI (a + b) := nI_add a b
theorem mul_nI (a b : Nat) : nI a * nI b = nI (a * b) := pk_mul a b
theorem nneg_nI {a : Nat} (ha : a < 2147483648) : ¬ nI a < 0 := nI_pos ha
theorem m1_ne {a : Nat} (ha : a < 2147483648) : ¬ nI a = -1 := fun h => by
  have := nI_pos (n := a) ha
  rw [h] at this
  exact this (by decide)
theorem m1_lt {a : Nat} (ha : a < 2147483648) : (-1 : Int32) < nI a := by
  rw [Int32.lt_iff_toInt_lt, nI_toInt ha]
  have : (-1 : Int32).toInt = -1 := rfl
  omega
theorem nI_m1 (a : Nat) : nI (a + 1) - 1 = nI a := nI_pred a
/-- an int in 0 .. n-1, or not -/
theorem nI_or (x : Int32) (n : Nat) (hn : n < 2147483648) : (∃ j, j < n ∧ x = nI j) ∨ (x < 0 ∨ nI n ≤ x) := by
  rcases pk_ix x hn with h | h | ⟨j, h1, h2⟩
  · exact Or.inr (Or.inl h)
  · exact Or.inr (Or.inr h)
  · exact Or.inl ⟨j, h1, h2⟩
theorem lt0_iff (x : Int32) : x < 0 ↔ x.toInt < 0 := by rw [Int32.lt_iff_toInt_lt]; exact Iff.rfl
theorem toInt_lit {n : Nat} (h : n < 2147483648) : (OfNat.ofNat n : Int32).toInt = (n : Int) := nI_toInt h
/-- Bool as an int -/
def b2i (b : Bool) : Int32 := if b then 1 else 0
theorem b2i_0 (b : Bool) : b2i b = 0 ↔ b = false := by cases b <;> decide
theorem b2i_1 (b : Bool) : b2i b = 1 ↔ b = true := by cases b <;> decide
theorem b2i_01 (b : Bool) : b2i b = 0 ∨ b2i b = 1 := by cases b <;> simp [b2i]
theorem b2i_if {c : Prop} [Decidable c] : (if c then (1 : Int32) else 0) = b2i (decide c) := by by_cases h : c <;> simp [b2i, h]
/-- counts from k on, over m places -/
def cf (p : Nat → Bool) : Nat → Nat → Nat
  | _, 0 => 0
  | k, m + 1 => (if p k then 1 else 0) + cf p (k + 1) m
def lf (p : Nat → Bool) : Nat → Nat → Int32 → Int32
  | _, 0, a => a
  | k, m + 1, a => lf p (k + 1) m (if p k then nI k else a)
def ld (p : Nat → Bool) : Nat → Int32
  | 0 => -1
  | c + 1 => if p c then nI c else ld p c
theorem cf_le (p : Nat → Bool) : ∀ m k, cf p k m ≤ m
  | 0, _ => Nat.le_refl _
  | m + 1, k => by
    have h := cf_le p m (k + 1)
    unfold cf
    split <;> omega
theorem cf_congr {p q : Nat → Bool} : ∀ m k, (∀ j, k ≤ j → j < k + m → p j = q j) → cf p k m = cf q k m
  | 0, _, _ => rfl
  | m + 1, k, h => by
    unfold cf
    rw [h k (Nat.le_refl _) (by omega), cf_congr m (k + 1) (fun j h1 h2 => h j (by omega) (by omega))]
theorem cf_last (p : Nat → Bool) : ∀ m k, cf p k (m + 1) = cf p k m + (if p (k + m) then 1 else 0)
  | 0, k => by simp [cf]
  | m + 1, k => by
    have h := cf_last p m (k + 1)
    rw [show cf p k (m + 1 + 1) = (if p k then 1 else 0) + cf p (k + 1) (m + 1) from rfl, h, show cf p k (m + 1) = (if p k then 1 else 0) + cf p (k + 1) m from rfl, show k + 1 + m = k + (m + 1) by omega]
    omega
theorem lf_last (p : Nat → Bool) : ∀ m k a, lf p k (m + 1) a = if p (k + m) then nI (k + m) else lf p k m a
  | 0, k, a => by simp [lf]
  | m + 1, k, a => by
    rw [show lf p k (m + 1 + 1) a = lf p (k + 1) (m + 1) (if p k then nI k else a) from rfl, lf_last p m (k + 1), show k + 1 + m = k + (m + 1) by omega]
    rfl
theorem lf_ld (p : Nat → Bool) : ∀ m, lf p 0 m (-1) = ld p m
  | 0 => rfl
  | m + 1 => by
    rw [lf_last p m 0, lf_ld p m, Nat.zero_add]
    rfl
theorem ld_congr {p q : Nat → Bool} : ∀ m, (∀ j, j < m → p j = q j) → ld p m = ld q m
  | 0, _ => rfl
  | m + 1, h => by
    unfold ld
    rw [h m (by omega), ld_congr m (fun j hj => h j (by omega))]
theorem ld_or (p : Nat → Bool) : ∀ m, (ld p m = -1 ∧ ∀ j, j < m → p j = false) ∨ ∃ c, c < m ∧ ld p m = nI c ∧ p c = true ∧ ∀ j, c < j → j < m → p j = false
  | 0 => Or.inl ⟨rfl, fun j h => absurd h (Nat.not_lt_zero j)⟩
  | m + 1 => by
    unfold ld
    by_cases h : p m = true
    · exact Or.inr ⟨m, by omega, by rw [if_pos h], h, fun j h1 h2 => by omega⟩
    · rw [if_neg h]
      have h' : p m = false := by simpa using h
      rcases ld_or p m with ⟨h1, h2⟩ | ⟨c, h1, h2, h3, h4⟩
      · exact Or.inl ⟨h1, fun j hj => by
          by_cases e : j = m
          · rw [e]; exact h'
          · exact h2 j (by omega)⟩
      · exact Or.inr ⟨c, by omega, h2, h3, fun j g1 g2 => by
          by_cases e : j = m
          · rw [e]; exact h'
          · exact h4 j g1 (by omega)⟩
def bgn (p : Nat → Bool) (c : Nat) : Bool := p c && !(decide (0 < c) && p (c - 1))
theorem fu_lt {n : Nat} (h : n < 1000000000) : n < FU := h
/-! upd -/
theorem upd_at (f : Row) (k : Nat) (v : Int32) : upd f k v k = v := pk_us
theorem upd_off (f : Row) {k j : Nat} (v : Int32) (h : j ≠ k) : upd f k v j = f j := pk_un h
theorem L0 : (0 : Int32) = nI 0 := rfl
theorem L1 : (1 : Int32) = nI 1 := rfl
theorem L2 : (2 : Int32) = nI 2 := rfl
theorem L3 : (3 : Int32) = nI 3 := rfl
theorem L4 : (4 : Int32) = nI 4 := rfl
theorem L5 : (5 : Int32) = nI 5 := rfl
theorem L6 : (6 : Int32) = nI 6 := rfl
theorem L7 : (7 : Int32) = nI 7 := rfl
theorem L8 : (8 : Int32) = nI 8 := rfl
theorem L9 : (9 : Int32) = nI 9 := rfl
theorem L10 : (10 : Int32) = nI 10 := rfl
theorem L11 : (11 : Int32) = nI 11 := rfl
theorem L12 : (12 : Int32) = nI 12 := rfl
theorem L14 : (14 : Int32) = nI 14 := rfl
theorem L15 : (15 : Int32) = nI 15 := rfl
theorem L16 : (16 : Int32) = nI 16 := rfl
theorem L20 : (20 : Int32) = nI 20 := rfl
theorem L21 : (21 : Int32) = nI 21 := rfl
theorem L29 : (29 : Int32) = nI 29 := rfl
theorem L30 : (30 : Int32) = nI 30 := rfl
theorem L31 : (31 : Int32) = nI 31 := rfl
theorem L32 : (32 : Int32) = nI 32 := rfl
theorem L35 : (35 : Int32) = nI 35 := rfl
theorem L45 : (45 : Int32) = nI 45 := rfl
theorem L48 : (48 : Int32) = nI 48 := rfl
theorem L50 : (50 : Int32) = nI 50 := rfl
theorem L60 : (60 : Int32) = nI 60 := rfl
theorem L68 : (68 : Int32) = nI 68 := rfl
theorem L97 : (97 : Int32) = nI 97 := rfl
theorem L99 : (99 : Int32) = nI 99 := rfl
theorem L100 : (100 : Int32) = nI 100 := rfl
theorem L101 : (101 : Int32) = nI 101 := rfl
theorem L102 : (102 : Int32) = nI 102 := rfl
theorem L112 : (112 : Int32) = nI 112 := rfl
theorem L115 : (115 : Int32) = nI 115 := rfl
theorem L116 : (116 : Int32) = nI 116 := rfl
theorem L119 : (119 : Int32) = nI 119 := rfl
theorem L120 : (120 : Int32) = nI 120 := rfl
theorem L128 : (128 : Int32) = nI 128 := rfl
theorem L140 : (140 : Int32) = nI 140 := rfl
theorem L156 : (156 : Int32) = nI 156 := rfl
theorem L196 : (196 : Int32) = nI 196 := rfl
theorem L197 : (197 : Int32) = nI 197 := rfl
theorem L198 : (198 : Int32) = nI 198 := rfl
theorem L199 : (199 : Int32) = nI 199 := rfl
theorem L200 : (200 : Int32) = nI 200 := rfl
theorem L201 : (201 : Int32) = nI 201 := rfl
theorem L202 : (202 : Int32) = nI 202 := rfl
theorem L203 : (203 : Int32) = nI 203 := rfl
theorem L204 : (204 : Int32) = nI 204 := rfl
theorem L205 : (205 : Int32) = nI 205 := rfl
theorem L255 : (255 : Int32) = nI 255 := rfl
theorem L400 : (400 : Int32) = nI 400 := rfl
theorem L410 : (410 : Int32) = nI 410 := rfl
theorem L1000 : (1000 : Int32) = nI 1000 := rfl
theorem L2665 : (2665 : Int32) = nI 2665 := rfl
theorem L2870 : (2870 : Int32) = nI 2870 := rfl
theorem L9999 : (9999 : Int32) = nI 9999 := rfl
theorem L10000 : (10000 : Int32) = nI 10000 := rfl
theorem L100000 : (100000 : Int32) = nI 100000 := rfl
theorem L1000000 : (1000000 : Int32) = nI 1000000 := rfl

def mI1 : Int32 := -1
theorem Lm1 : (-1 : Int32) = mI1 := rfl
theorem b2i_t2 : b2i true = nI 1 := rfl
theorem b2i_f2 : b2i false = nI 0 := rfl
theorem n10 : ((1 : Nat) = 0) = False := by simp
theorem n01 : ((0 : Nat) = 1) = False := by simp
theorem em1 {a : Nat} (ha : a < 2147483648) : (nI a = mI1) = False := eq_false (m1_ne ha)
theorem em2 {a : Nat} (ha : a < 2147483648) : (mI1 = nI a) = False := eq_false (fun h => m1_ne ha h.symm)
theorem lm1 {a : Nat} (ha : a < 2147483648) : (mI1 < nI a) = True := eq_true (m1_lt ha)
theorem lm2 {a : Nat} (ha : a < 2147483648) : (nI a < mI1) = False := eq_false (Int32.not_lt.mpr (Int32.le_of_lt (m1_lt ha)))
theorem lm3 {a : Nat} (ha : a < 2147483648) : (mI1 ≤ nI a) = True := eq_true (Int32.le_of_lt (m1_lt ha))
theorem lm4 {a : Nat} (ha : a < 2147483648) : (nI a ≤ mI1) = False := eq_false (Int32.not_le.mpr (m1_lt ha))
/-! loops -/
def itr {σ : Type} (f : Nat → σ → σ) : Nat → Nat → σ → σ
  | _, 0, s => s
  | k, m + 1, s => itr f (k + 1) m (f k s)
theorem loop_itr {σ R : Type} (L : Nat → σ → Nat → Option R) (f : Nat → σ → σ) (fin : σ → Option R) (E : Nat) (h0 : ∀ n s, L (n + 1) s E = fin s) (h1 : ∀ n s k, k < E → L (n + 1) s k = L n (f k s) (k + 1)) : ∀ m n k s, m < n → k + m = E → L n s k = fin (itr f k m s)
  | 0, n + 1, k, s, _, hk => by
    have e : k = E := by omega
    subst e
    exact h0 n s
  | m + 1, n + 1, k, s, hn, hk => by
    rw [h1 n s k (by omega)]
    exact loop_itr L f fin E h0 h1 m n (k + 1) (f k s) (by omega) (by omega)
theorem itr_cf (p : Nat → Bool) : ∀ m k a, itr (fun k a => a + (if p k then 1 else 0)) k m a = a + cf p k m
  | 0, _, a => rfl
  | m + 1, k, a => by
    show itr _ (k + 1) m _ = a + ((if p k then 1 else 0) + cf p (k + 1) m)
    rw [itr_cf p m (k + 1)]
    show a + (if p k then 1 else 0) + cf p (k + 1) m = _
    omega
theorem itr_lf (p : Nat → Bool) : ∀ m k a, itr (fun k a => if p k then nI k else a) k m a = lf p k m a
  | 0, _, a => rfl
  | m + 1, k, a => itr_lf p m (k + 1) _
/-- sums -/
def sf (f : Nat → Nat) : Nat → Nat → Nat
  | _, 0 => 0
  | k, m + 1 => f k + sf f (k + 1) m
theorem itr_sf (f : Nat → Nat) : ∀ m k a, itr (fun k a => a + f k) k m a = a + sf f k m
  | 0, _, a => rfl
  | m + 1, k, a => by
    show itr _ (k + 1) m _ = a + (f k + sf f (k + 1) m)
    rw [itr_sf f m (k + 1)]
    show a + f k + sf f (k + 1) m = _
    omega
theorem sf_le {f : Nat → Nat} {B : Nat} (h : ∀ k, f k ≤ B) : ∀ m k, sf f k m ≤ m * B
  | 0, _ => Nat.zero_le _
  | m + 1, k => by
    have h1 := sf_le h m (k + 1)
    have h2 := h k
    show f k + sf f (k + 1) m ≤ _
    rw [Nat.add_mul]
    omega
theorem sf_congr {f g : Nat → Nat} : ∀ m k, (∀ j, k ≤ j → j < k + m → f j = g j) → sf f k m = sf g k m
  | 0, _, _ => rfl
  | m + 1, k, h => by
    show f k + sf f (k + 1) m = g k + sf g (k + 1) m
    rw [h k (Nat.le_refl _) (by omega), sf_congr m (k + 1) (fun j a b => h j (by omega) (by omega))]
theorem itr_inv {σ : Type} {f : Nat → σ → σ} (P : σ → Prop) (h : ∀ k s, P s → P (f k s)) : ∀ m k s, P s → P (itr f k m s)
  | 0, _, _, hs => hs
  | m + 1, k, s, hs => itr_inv P h m (k + 1) _ (h k s hs)
/-- a stretch of a row is put over another's -/
def lay (o : Row) (lo n : Nat) (g : Row) : Row := fun j => if lo ≤ j ∧ j < lo + n then o j else g j
theorem itr_lay (o : Row) : ∀ m k g, itr (fun k g => upd g k (o k)) k m g = lay o k m g
  | 0, k, g => by
    funext j
    show g j = _
    unfold lay
    rw [if_neg (by omega)]
  | m + 1, k, g => by
    show itr _ (k + 1) m (upd g k (o k)) = _
    rw [itr_lay o m (k + 1)]
    funext j
    unfold lay
    by_cases h1 : k + 1 ≤ j ∧ j < k + 1 + m
    · rw [if_pos h1, if_pos (by omega)]
    · rw [if_neg h1]
      by_cases h2 : j = k
      · subst h2
        rw [pk_us, if_pos (by omega)]
      · rw [pk_un h2, if_neg (by omega)]
