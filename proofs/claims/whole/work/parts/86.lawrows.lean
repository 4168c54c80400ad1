/-! the law: its state between two calls, and rows over it -/
def LSx (D : va_G) (x q : Nat) (μ ν : Mem) (w : Int64) (H : Heap) : Prop := va_P D vwCl (WO D x μ q w) H ∧ va_P D vwCl (WM D (x + 349) ν) H
theorem rngL_bge {x q : Nat} (hq : x + 357 ≤ q) {a : Nat} (h : rngL x q a) : bge x a := by
  rcases h with h | h
  · exact h.1
  · show x ≤ a
    omega
theorem rngM_not {x q : Nat} (hq : x + 357 ≤ q) {a : Nat} (h : rngM (x + 349) a) : ¬ rngL x q a := by
  obtain ⟨h1, h2⟩ := h
  intro h3
  rcases h3 with ⟨h4, h5⟩ | h3
  · omega
  · omega
theorem q_not {x q : Nat} (hq : x + 357 ≤ q) : ¬ rng x q := fun h => by
  have := h.2
  omega
theorem ls_keepM {D : va_G} {x q : Nat} {ν : Mem} {H H1 : Heap} (h : va_P D vwCl (WM D (x + 349) ν) H) {A1 : Nat → Prop} (hk : ∀ a : Nat, a < H.size → ¬ A1 a → H1[a]? = H[a]?) (hA : ∀ a, rngM (x + 349) a → ¬ A1 a) : va_P D vwCl (WM D (x + 349) ν) H1 :=
  h.kept fun j r hr => hk r.1 (vx_lt h hr) (hA _ ((WM_D D (x + 349) ν).2 j r hr))
theorem ls_keepO {D : va_G} {x q : Nat} {μ : Mem} {w : Int64} {H H1 : Heap} (hq : x + 357 ≤ q) (h : va_P D vwCl (WO D x μ q w) H) (hk : ∀ a : Nat, a < H.size → ¬ rngM (x + 349) a → H1[a]? = H[a]?) : va_P D vwCl (WO D x μ q w) H1 :=
  h.kept fun j r hr => hk r.1 (vx_lt h hr) (fun z => rngM_not hq z ((WO_D D μ w (q_not hq)).2 j r hr))
section LW
variable {p : Program} {l : Launch} {e : Env} {R : Room} {s : State} {m : MethodId} {args : Array Value} {below : List Frame} {meth : Method} {c : Code} {H : Heap} {locs : List Loc} {cells slots : Nat} {Q : State → Prop}
variable {cc : ByteArray} {pc : Nat} {ls : Array Slot} {rest : List Value} {D : va_G} {x q : Nat} {μ ν : Mem} {w : Int64} {own : String} {Ts : List Cond} {nL : Nat}
theorem g_sl {U : State} (hG : SGA (bge x) s s.heap) (hS : va_S (bge x) s.heap H locs) (hU : U.heap = H) (hW : s.WarmedH U.vm) : SL x U U.heap :=
  SGA.sl (A := bge x) (SGA.to hG hW (fun a ha hna => by rw [hU]; exact hS.2.1 a ha hna)) (fun a h => h.1)
theorem g_H (F : CallFix p m c cc nL s args Ts own) (hK : va_K D vwCl (tyX D) s) (hG : SGA (bge x) s s.heap) (hq : x + 357 ≤ q) (hL : LSx D x q μ ν w H) (hS : va_S (bge x) s.heap H locs)
    {y : MethodName} {ws : List Cond} {rm : Room} {As : List Value} {μ' : Mem} {w' : Int64} {mc ms : Nat} {v : Int32} {index n maxL : Nat} {bytes : ByteArray} {ret : Option FieldType} {hh : List (Nat × Nat × Nat × Nat)} (hM : LX l y ws rm mc ms As D x μ q w v μ' w') (cw : vx_CSW R s args own index y bytes maxL ret hh ws rm mc ms n) (hn : As.length = n) {st : List Value} (hst : st = As.reverse ++ rest) (hsz : ls.size = nL)
    (hW : (rest.map fun v => v.category).sum ≤ 8) (hdg : decode cc pc = .ok (.invokestatic index, 3)) (hf : cells + mc ≤ R.cells ∧ slots + ms ≤ R.slots)
    (kk : ∀ (H1 : Heap) (locs1 : List Loc), LSx D x q μ' ν w' H1 → va_S (bge x) s.heap H1 locs1 → W p l e R s m args below meth c H1 locs1 (cells + mc) (slots + ms) Q (F0 m (pc + 3) ls (.int v :: rest))) : W p l e R s m args below meth c H locs cells slots Q (F0 m pc ls st) := by
  have hr := vx_runSX (As := As) (g := F0 m pc ls st) (H := H) (locs := locs) (cells := cells) (slots := slots) (p := p) (l := l) (e := e) (R := R) (below := below) (meth := meth) (rest := rest) F hM cw ⟨KL.blind, fun U hU hW => ⟨rfl, by rw [hU]; exact hL.1, va_K.moved hW.alike hK, g_sl hG hS hU hW⟩⟩ rfl hn hsz hst (by show 2 * 0 + _ ≤ 8; omega) hdg hf
  intro T hT X
  rcases hr T hT X with ⟨v2, st₀, t, T', L, h0, X', hLl, e1, e2, ⟨hv, hb, hF⟩, st⟩ | ⟨q9, st₀, t, T', L, E, ce, h0, X', hLl, e1, e2, hXF, hce, hcv, hcl, st⟩
  · cases hv
    obtain ⟨j1, j2, j3⟩ := vx_keep (A0 := bge x) (A1 := rngL x q) h0 e1 hS (fun a _ h => rngL_bge hq h) (fun a h => rngL_bge hq h) hLl hF
    obtain ⟨t2, a1, b1⟩ := kk T'.heap (locs ++ L) ⟨by rw [e1]; exact hb, ls_keepM (q := q) hL.2 j2 (fun a h => rngM_not hq h)⟩ j3 T' rfl X'
    exact ⟨t2, st t2 a1, b1⟩
  · exact False.elim hXF
theorem g_M (F : CallFix p m c cc nL s args Ts own) (hK : va_K D vwCl (tyX D) s) (hq : x + 357 ≤ q) (hL : LSx D x q μ ν w H) (hS : va_S (bge x) s.heap H locs)
    {yn : MethodName} {ws : List Cond} {rm : Room} {As : List Value} {ν' : Mem} {v : Int32} {index n maxL : Nat} {bytes : ByteArray} {ret : Option FieldType} (hM : CM l yn ws rm (.ref (x + 349) :: As) D (x + 349) ν (some (.int v)) ν') (cw : CallW R s args own RX5 index yn bytes maxL ret ws rm 0 0 n) (hn : As.length = n) {st : List Value} (hst : st = As.reverse ++ .ref (x + 349) :: rest) (hsz : ls.size = nL)
    (hW : (rest.map fun v => v.category).sum ≤ 8) (hdg : decode cc pc = .ok (.invokevirtual index, 3)) (hf : cells ≤ R.cells ∧ slots ≤ R.slots)
    (kk : ∀ (H1 : Heap) (locs1 : List Loc), LSx D x q μ ν' w H1 → va_S (bge x) s.heap H1 locs1 → W p l e R s m args below meth c H1 locs1 cells slots Q (F0 m (pc + 3) ls (.int v :: rest))) : W p l e R s m args below meth c H locs cells slots Q (F0 m pc ls st) := by
  have hr := va_runV (g := F0 m pc ls st) (H := H) (locs := locs) (cells := cells) (slots := slots) (p := p) (l := l) (e := e) (R := R) (below := below) (meth := meth) (rest := rest) F hM cw ⟨KM.blind, m_recv hK hL.2, fun U hU hW => ⟨rfl, by rw [hU]; exact hL.2, va_K.moved hW.alike hK⟩⟩ rfl hn hsz hst (by show 2 * 0 + _ ≤ 8; omega) hdg hf
  intro T hT X
  obtain ⟨v2, st₀, t, T', L, h0, X', hLl, e1, e2, ⟨hv, hb, hF⟩, st⟩ := hr T hT X
  cases hv
  obtain ⟨j1, j2, j3⟩ := vx_keep (A0 := bge x) (A1 := rngM (x + 349)) h0 e1 hS (fun a _ h => by show x ≤ a; have := h.1; omega) (fun a h => by show x ≤ a; have := h.1; omega) hLl hF
  obtain ⟨t2, a1, b1⟩ := kk T'.heap (locs ++ L) ⟨ls_keepO hq hL.1 j2, by rw [e1]; exact hb⟩ j3 T' rfl X'
  exact ⟨t2, st t2 a1, b1⟩
theorem g_keepX {v : Nat} {H1 : Heap} {A1 : Nat → Prop} {μ' : Mem} (hq : x + 357 ≤ q) (hL : LSx D x q μ ν w H) (hb : va_P D vwCl (WL D x μ') H1) (j2 : ∀ a : Nat, a < H.size → ¬ rng x a → H1[a]? = H[a]?) : LSx D x q μ' ν w H1 := by
  refine ⟨WO_of hb ((WO_r hL.1).kept fun i r hi => ?_), ls_keepM (q := q) hL.2 j2 (fun a h h2 => by have := h.1; have := h2.2; omega)⟩
  have h1 : i < 1 := (List.getElem?_eq_some_iff.mp hi).1
  have h2 : i = 0 := by omega
  subst h2
  cases hi
  exact j2 q (WO_lt hL.1) (q_not hq)
theorem g_X (F : CallFix p m c cc nL s args Ts own) (hK : va_K D vwCl (tyX D) s) (hG : SGA (bge x) s s.heap) (hq : x + 357 ≤ q) (hL : LSx D x q μ ν w H) (hS : va_S (bge x) s.heap H locs)
    {yn : MethodName} {ws : List Cond} {rm : Room} {As : List Value} {μ' : Mem} {v : Int32} {index n maxL : Nat} {bytes : ByteArray} {ret : Option FieldType} (hM : CX l yn ws rm (.ref (x + 0) :: As) D x μ (some (.int v)) μ') (cw : CallW R s args own RX4 index yn bytes maxL ret ws rm 0 0 n) (hn : As.length = n) {st : List Value} (hst : st = As.reverse ++ .ref (x + 0) :: rest) (hsz : ls.size = nL)
    (hW : (rest.map fun v => v.category).sum ≤ 8) (hdg : decode cc pc = .ok (.invokevirtual index, 3)) (hf : cells ≤ R.cells ∧ slots ≤ R.slots)
    (kk : ∀ (H1 : Heap) (locs1 : List Loc), LSx D x q μ' ν w H1 → va_S (bge x) s.heap H1 locs1 → W p l e R s m args below meth c H1 locs1 cells slots Q (F0 m (pc + 3) ls (.int v :: rest))) : W p l e R s m args below meth c H locs cells slots Q (F0 m pc ls st) := by
  have hr := va_runV (g := F0 m pc ls st) (H := H) (locs := locs) (cells := cells) (slots := slots) (p := p) (l := l) (e := e) (R := R) (below := below) (meth := meth) (rest := rest) F hM cw ⟨KX.blind, x_recv hK (WO_l hL.1) (o := 0) (by decide) (q := (0, 0, 0)) rfl (ci := 4) (fun _ => rfl) rfl, fun U hU hW => ⟨rfl, by rw [hU]; exact WO_l hL.1, va_K.moved hW.alike hK, (g_sl hG hS hU hW).1⟩⟩ rfl hn hsz hst (by show 2 * 0 + _ ≤ 8; omega) hdg hf
  intro T hT X
  obtain ⟨v2, st₀, t, T', L, h0, X', hLl, e1, e2, ⟨hv, hb, hF⟩, st⟩ := hr T hT X
  cases hv
  obtain ⟨j1, j2, j3⟩ := vx_keep (A0 := bge x) (A1 := rng x) h0 e1 hS (fun a _ h => h.1) (fun a h => h.1) hLl hF
  obtain ⟨t2, a1, b1⟩ := kk T'.heap (locs ++ L) (g_keepX (v := 0) (A1 := rng x) hq hL (by rw [e1]; exact hb) j2) j3 T' rfl X'
  exact ⟨t2, st t2 a1, b1⟩
theorem g_T (F : CallFix p m c cc nL s args Ts own) (hK : va_K D vwCl (tyX D) s) (hG : SGA (bge x) s s.heap) (hq : x + 357 ≤ q) (hL : LSx D x q μ ν w H) (hS : va_S (bge x) s.heap H locs)
    {yn : MethodName} {ws : List Cond} {rm : Room} {As : List Value} {μ' : Mem} {v : Int32} {mc ms index n maxL : Nat} {bytes : ByteArray} {ret : Option FieldType} (hM : TX l yn ws rm mc ms (.ref (x + 0) :: As) D x μ 0 (some (.int v)) μ') (cw : CallW R s args own RX4 index yn bytes maxL ret ws rm mc ms n) (hn : As.length = n) {st : List Value} (hst : st = As.reverse ++ .ref (x + 0) :: rest) (hsz : ls.size = nL)
    (hW : (rest.map fun v => v.category).sum ≤ 8) (hdg : decode cc pc = .ok (.invokevirtual index, 3)) (hf : cells + mc ≤ R.cells ∧ slots + ms ≤ R.slots)
    (kk : ∀ (H1 : Heap) (locs1 : List Loc), LSx D x q μ' ν w H1 → va_S (bge x) s.heap H1 locs1 → W p l e R s m args below meth c H1 locs1 (cells + mc) (slots + ms) Q (F0 m (pc + 3) ls (.int v :: rest))) : W p l e R s m args below meth c H locs cells slots Q (F0 m pc ls st) := by
  have hr := vx_runV (g := F0 m pc ls st) (H := H) (locs := locs) (cells := cells) (slots := slots) (p := p) (l := l) (e := e) (R := R) (below := below) (meth := meth) (rest := rest) F hM cw ⟨KX.blind, x_recv hK (WO_l hL.1) (o := 0) (by decide) (q := (0, 0, 0)) rfl (ci := 4) (fun _ => rfl) rfl, fun U hU hW => ⟨rfl, by rw [hU]; exact WO_l hL.1, va_K.moved hW.alike hK, (g_sl hG hS hU hW).1⟩⟩ rfl hn hsz hst (by show 2 * 0 + _ ≤ 8; omega) hdg hf
  intro T hT X
  rcases hr T hT X with ⟨v2, st₀, t, T', L, h0, X', hLl, e1, e2, ⟨_, hv, hb, hF⟩, st⟩ | ⟨q9, st₀, t, T', L, E, ce, h0, X', hLl, e1, e2, ⟨hk0, _⟩, hce, hcv, hcl, st⟩
  · cases hv
    obtain ⟨j1, j2, j3⟩ := vx_keep (A0 := bge x) (A1 := rng x) h0 e1 hS (fun a _ h => h.1) (fun a h => h.1) hLl hF
    obtain ⟨t2, a1, b1⟩ := kk T'.heap (locs ++ L) (g_keepX (v := 0) (A1 := rng x) hq hL (by rw [e1]; exact hb) j2) j3 T' rfl X'
    exact ⟨t2, st t2 a1, b1⟩
  · exact absurd rfl hk0
/-- an argument: one of the script's ints -/
theorem g_arg (F : CallFix p m c cc nL s args Ts own) {b L i k : Nat} {xs : Nat → Int32} (hX : va_X b L xs s s.heap) (hbl : b < s.heap.size) (hbx : b < x) (hS : va_S (bge x) s.heap H locs) (hL : L ≤ 2560) (hik : i + k < L) (h0 : ls[0]? = some (.val (.ref b))) (h4 : ls[4]? = some (.val (.int (nI i)))) {kz : Int} (hkz : Int32.ofInt kz = nI k)
    (d1 : decode cc pc = .ok (.aload_n 0, 1)) (d2 : decode cc (pc + 1) = .ok (.iload 4, 2)) (d3 : decode cc (pc + 3) = .ok (.iconst kz, 1)) (d4 : decode cc (pc + 4) = .ok (.iadd, 1)) (d5 : decode cc (pc + 5) = .ok (.iaload, 1))
    (kk : W p l e R s m args below meth c H locs cells slots Q (F0 m (pc + 6) ls (.int (xs (i + k)) :: rest))) : W p l e R s m args below meth c H locs cells slots Q (F0 m pc ls rest) := by
  refine lv_aload_n F.1 F.2.1 d1 rfl h0 ?_
  refine lv_iload F.1 F.2.1 d2 h4 ?_
  refine lv_iconst (v := nI k) F.1 F.2.1 d3 hkz ?_
  refine lv_iadd F.1 F.2.1 d4 ?_
  rw [add_nI]
  refine va_sld F.1 F.2.1 hX hbl (fun h => by have : x ≤ b := h; omega) hS (i := nI (i + k)) (vp_in_nI hik (by omega)) d5 ?_
  rw [cl_nI (by omega)]
  exact kk
def lw_lg (a b : Int32) : Int64 := (a.toInt64 <<< ((32 : Int32).toInt64 &&& 63)) ||| (b.toInt64 &&& 4294967295)
/-- a long out of two of the script's ints -/
theorem g_lng (F : CallFix p m c cc nL s args Ts own) {b L i k k2 : Nat} {xs : Nat → Int32} (hX : va_X b L xs s s.heap) (hbl : b < s.heap.size) (hbx : b < x) (hS : va_S (bge x) s.heap H locs) (hL : L ≤ 2560) (hik : i + k < L) (hik2 : i + k2 < L) (h0 : ls[0]? = some (.val (.ref b))) (h4 : ls[4]? = some (.val (.int (nI i)))) {kz kz2 : Int} (hkz : Int32.ofInt kz = nI k) (hkz2 : Int32.ofInt kz2 = nI k2)
    {idx : Nat} (hcw : Cond.constantLong own idx 4294967295 ∈ Ts)
    (d1 : decode cc pc = .ok (.aload_n 0, 1)) (d2 : decode cc (pc + 1) = .ok (.iload 4, 2)) (d3 : decode cc (pc + 3) = .ok (.iconst kz, 1)) (d4 : decode cc (pc + 4) = .ok (.iadd, 1)) (d5 : decode cc (pc + 5) = .ok (.iaload, 1))
    (d6 : decode cc (pc + 6) = .ok (.i2l, 1)) (d7 : decode cc (pc + 7) = .ok (.bipush 32, 2)) (d8 : decode cc (pc + 9) = .ok (.lshl, 1))
    (e1 : decode cc (pc + 10) = .ok (.aload_n 0, 1)) (e2 : decode cc (pc + 11) = .ok (.iload 4, 2)) (e3 : decode cc (pc + 13) = .ok (.iconst kz2, 1)) (e4 : decode cc (pc + 14) = .ok (.iadd, 1)) (e5 : decode cc (pc + 15) = .ok (.iaload, 1))
    (e6 : decode cc (pc + 16) = .ok (.i2l, 1)) (e7 : decode cc (pc + 17) = .ok (.ldc2_w idx, 3)) (e8 : decode cc (pc + 20) = .ok (.land, 1)) (e9 : decode cc (pc + 21) = .ok (.lor, 1))
    (kk : W p l e R s m args below meth c H locs cells slots Q (F0 m (pc + 22) ls (.long (lw_lg (xs (i + k)) (xs (i + k2))) :: rest))) : W p l e R s m args below meth c H locs cells slots Q (F0 m pc ls rest) := by
  refine g_arg F hX hbl hbx hS hL hik h0 h4 hkz d1 d2 d3 d4 d5 ?_
  refine lv_i2l (v := (xs (i + k)).toInt64) F.1 F.2.1 d6 rfl ?_
  refine lv_bipush (v := (32 : Int32)) F.1 F.2.1 d7 (by decide) ?_
  refine lv_lshl F.1 F.2.1 d8 rfl ?_
  refine g_arg (pc := pc + 10) F hX hbl hbx hS hL hik2 h0 h4 hkz2 e1 e2 e3 e4 e5 ?_
  refine lv_i2l (v := (xs (i + k2)).toInt64) F.1 F.2.1 e6 rfl ?_
  refine lv_ldc2 (v := (4294967295 : Int64)) F.1 F.2.1 F.2.2.2.1 (F.2.2.2.2 _ hcw) e7 ?_
  refine lv_land F.1 F.2.1 e8 ?_
  refine lv_lor F.1 F.2.1 e9 ?_
  exact kk
end LW
theorem cmp_self (a : Int64) : lg_cmp a a = 0 := (lg_cmp_eq a a).mpr rfl
def lwl (b x q i : Nat) : List (Nat × Value) := [(0, .ref b), (1, .ref (x + 0)), (2, .ref (x + 349)), (3, .ref q), (4, .int (nI i))]
section LT
variable {p : Program} {l : Launch} {e : Env} {R : Room} {s : State} {m : MethodId} {args : Array Value} {below : List Frame} {meth : Method} {c : Code} {H : Heap} {locs : List Loc} {cells slots : Nat} {Q : State → Prop}
variable {pc : Nat} {ls : Array Slot} {D : va_G} {x q : Nat} {μ ν : Mem} {w : Int64} {own : String} {Ts : List Cond}
/-- behind both calls: what was thrown, and what was answered -/
theorem g_tail (F : CallFix p m c code 7 s args Ts own) (hK : va_K D vwCl (tyX D) s) (hq : x + 357 ≤ q) (hL : LSx D x q μ ν w H) (hS : va_S (bge x) s.heap H locs) {k bb : Int32} {b i : Nat} (hl : lv_has ls 7 ((6, .int bb) :: (5, .int k) :: lwl b x q i)) (hthr : ν 0 0 = k) (hans : k = 0 → w = bb.toInt64)
    (hR : cells ≤ R.cells ∧ slots ≤ R.slots) (cw : CallW R s args own RX5 110 yX5_thrown cX5_thrown 1 (some .int) wsX5_thrown rmX5_thrown 0 0 0) {off : Int} (ht : ((pc + 28 : Nat) : Int) + off = (1984 : Nat))
    (d1 : decode code pc = .ok (.aload_n 2, 1)) (d2 : decode code (pc + 1) = .ok (.invokevirtual 110, 3)) (d3 : decode code (pc + 4) = .ok (.iload 5, 2)) (d4 : decode code (pc + 6) = .ok (.if_icmp .eq 5, 3)) (d5 : decode code (pc + 11) = .ok (.iload 5, 2)) (d6 : decode code (pc + 13) = .ok (.ifCond .ne 15, 3)) (d7 : decode code (pc + 16) = .ok (.aload_n 3, 1)) (d8 : decode code (pc + 17) = .ok (.iconst 0, 1)) (d9 : decode code (pc + 18) = .ok (.laload, 1)) (d10 : decode code (pc + 19) = .ok (.iload 6, 2)) (d11 : decode code (pc + 21) = .ok (.i2l, 1)) (d12 : decode code (pc + 22) = .ok (.lcmp, 1)) (d13 : decode code (pc + 23) = .ok (.ifCond .eq 5, 3)) (d14 : decode code (pc + 28) = .ok (.goto off, 3))
    (kk : ∀ (H1 : Heap) (locs1 : List Loc), LSx D x q μ ν w H1 → va_S (bge x) s.heap H1 locs1 → W p l e R s m args below meth c H1 locs1 cells slots Q (F0 m 1984 ls [])) : W p l e R s m args below meth c H locs cells slots Q (F0 m pc ls []) := by
  refine lv_aload_n F.1 F.2.1 d1 rfl (lv_at hl 4 rfl) ?_
  refine g_M F hK hq hL hS (As := []) (c_X5_thrown (y := x + 349) (ν := ν) (r := ν 0 0) rfl) cw rfl rfl hl.1 (rest := []) (Nat.le_of_ble_eq_true rfl) d2 hR (fun H locs hL hS => ?_)
  refine lv_iload F.1 F.2.1 d3 (lv_at hl 1 rfl) ?_
  refine lv_icmp_eq (tgt := pc + 11) F.1 F.2.1 d4 (by omega) (fun _ => ?_) (fun h => absurd hthr h)
  refine lv_iload F.1 F.2.1 d5 (lv_at hl 1 rfl) ?_
  refine lv_if_ne (tgt := pc + 28) F.1 F.2.1 d6 (by omega) (fun _ => ?_) (fun hk0 => ?_)
  · exact lv_goto F.1 F.2.1 d14 ht (kk H locs hL hS)
  · refine lv_aload_n F.1 F.2.1 d7 rfl (lv_at hl 5 rfl) ?_
    refine lv_iconst (v := (0 : Int32)) F.1 F.2.1 d8 (by decide) ?_
    refine va_lald F.1 F.2.1 hK hL.1 349 4 (WO_at D x μ q w) rfl (i := nI 0) (vp_in_nI (by omega) (by omega)) d9 ?_
    refine lv_iload F.1 F.2.1 d10 (lv_at hl 0 rfl) ?_
    refine lv_i2l (v := bb.toInt64) F.1 F.2.1 d11 rfl ?_
    refine W.lcmp F.1 F.2.1 d12 ?_
    have hw : oF w (nI 0).toNatClampNeg = bb.toInt64 := hans hk0
    rw [hw, cmp_self]
    refine lv_if_eq (tgt := pc + 28) F.1 F.2.1 d13 (by omega) (fun _ => ?_) (fun h => absurd rfl h)
    exact lv_goto F.1 F.2.1 d14 ht (kk H locs hL hS)
end LT
/-! what a call's two sides say, as the helper's code -/
theorem res1 {k : Nat} {v b th : Int32} {w : Int64} {a1 : Nat} (h : (k = 0 ∧ th = 0 ∧ v = b) ∨ ∃ i, ([a1] : List Nat)[i]? = some k ∧ th = nI (i + 1)) : ∃ cd w2, ((k = 0 ∧ cd = 0 ∧ w2 = v.toInt64) ∨ (k = a1 ∧ cd = 1 ∧ w2 = w)) ∧ th = cd ∧ (cd = 0 → w2 = b.toInt64) := by
  rcases h with ⟨h1, h2, h3⟩ | ⟨i, h1, h2⟩
  · exact ⟨0, v.toInt64, Or.inl ⟨h1, rfl, rfl⟩, h2, fun _ => by rw [h3]⟩
  · match i, h1, h2 with
    | 0, h1, h2 => cases h1; exact ⟨1, w, Or.inr ⟨rfl, rfl, rfl⟩, h2, fun h => absurd h (by decide)⟩
    | i + 1, h1, _ => simp at h1
theorem res2 {k : Nat} {v b th : Int32} {w : Int64} {a1 a2 : Nat} (h : (k = 0 ∧ th = 0 ∧ v = b) ∨ ∃ i, ([a1, a2] : List Nat)[i]? = some k ∧ th = nI (i + 1)) : ∃ cd w2, ((k = 0 ∧ cd = 0 ∧ w2 = v.toInt64) ∨ (k = a1 ∧ cd = 1 ∧ w2 = w) ∨ (k = a2 ∧ cd = 2 ∧ w2 = w)) ∧ th = cd ∧ (cd = 0 → w2 = b.toInt64) := by
  rcases h with ⟨h1, h2, h3⟩ | ⟨i, h1, h2⟩
  · exact ⟨0, v.toInt64, Or.inl ⟨h1, rfl, rfl⟩, h2, fun _ => by rw [h3]⟩
  · match i, h1, h2 with
    | 0, h1, h2 => cases h1; exact ⟨1, w, Or.inr (Or.inl ⟨rfl, rfl, rfl⟩), h2, fun h => absurd h (by decide)⟩
    | 1, h1, h2 => cases h1; exact ⟨2, w, Or.inr (Or.inr ⟨rfl, rfl, rfl⟩), h2, fun h => absurd h (by decide)⟩
    | i + 2, h1, _ => simp at h1
theorem res3 {k : Nat} {v b th : Int32} {w : Int64} {a1 a2 a3 : Nat} (h : (k = 0 ∧ th = 0 ∧ v = b) ∨ ∃ i, ([a1, a2, a3] : List Nat)[i]? = some k ∧ th = nI (i + 1)) : ∃ cd w2, ((k = 0 ∧ cd = 0 ∧ w2 = v.toInt64) ∨ (k = a1 ∧ cd = 1 ∧ w2 = w) ∨ (k = a2 ∧ cd = 2 ∧ w2 = w) ∨ (k = a3 ∧ cd = 3 ∧ w2 = w)) ∧ th = cd ∧ (cd = 0 → w2 = b.toInt64) := by
  rcases h with ⟨h1, h2, h3⟩ | ⟨i, h1, h2⟩
  · exact ⟨0, v.toInt64, Or.inl ⟨h1, rfl, rfl⟩, h2, fun _ => by rw [h3]⟩
  · match i, h1, h2 with
    | 0, h1, h2 => cases h1; exact ⟨1, w, Or.inr (Or.inl ⟨rfl, rfl, rfl⟩), h2, fun h => absurd h (by decide)⟩
    | 1, h1, h2 => cases h1; exact ⟨2, w, Or.inr (Or.inr (Or.inl ⟨rfl, rfl, rfl⟩)), h2, fun h => absurd h (by decide)⟩
    | 2, h1, h2 => cases h1; exact ⟨3, w, Or.inr (Or.inr (Or.inr ⟨rfl, rfl, rfl⟩)), h2, fun h => absurd h (by decide)⟩
    | i + 3, h1, _ => simp at h1
