/-! the law's methods over one object: they answer, and throw nothing -/
def SL (x : Nat) (U : State) (H : Heap) : Prop := SG x U H ∧ ∀ i j, 1 ≤ i → i ≤ 3 → 1 ≤ j → j ≤ 3 → i ≠ j → va_Nc (exN i) (exN j) U
theorem SL.to {x : Nat} {s U : State} {H H1 : Heap} (h : SL x s H) (hW : s.WarmedH U.vm) (hq : ∀ a : Nat, a < H.size → ¬ rng x a → H1[a]? = H[a]?) : SL x U H1 := ⟨h.1.to hW hq, fun i j a b c d e => va_Nc.moved hW.alike (h.2 i j a b c d e)⟩
def KS (D : va_G) (x : Nat) (μ : Mem) (U : State) : Prop := va_P D vwCl (WL D x μ) U.heap ∧ va_K D vwCl (tyX D) U ∧ SL x U U.heap
theorem KS.blind {as : List Value} {D : va_G} {x : Nat} {μ : Mem} : FrameBlind (va_Pc as (KS D x μ)) := fun a U g mk h => by
  obtain ⟨q0, qP, qK, qS⟩ := h
  exact ⟨q0, qP, va_K.moved (u := U) (U := U.calling g mk a) (Vm.Alike.refl U.vm) qK, SL.to (U := U.calling g mk a) qS (State.WarmedH.refl U) (fun _ _ _ => rfl)⟩
def XF : String → State → State → Prop := fun _ _ _ => False
def LC (l : Launch) (y : MethodName) (ws : List Cond) (rm : Room) (mc ms : Nat) (as : List Value) (D : va_G) (x : Nat) (μ : Mem) (v : Option Value) (μ' : Mem) : Prop := vx_Met l y ws rm (va_Pc as (KS D x μ)) (QX D x μ' v) XF mc ms (rng x)
theorem LC.ofH {l : Launch} {y : MethodName} {ws ws' : List Cond} {rm : Room} {mc ms : Nat} {as : List Value} {D : va_G} {x : Nat} {μ μ' : Mem} {v : Option Value} {cc : ByteArray} {maxL : Nat} {ret : Option FieldType} {hh : List (Nat × Nat × Nat × Nat)}
    (hy : plainName y.cls = true) (hw : ws = Cond.codeWith y cc maxL ret hh :: ws') (hn : (lg_sl as).length ≤ maxL)
    (body : ∀ p e s m args below meth c, CallFix p m c cc maxL s args ws y.cls → meth.sig.returnType = ret → meth.locks = false → c.exceptionTable.toList = tableOf hh → va_K D vwCl (tyX D) s → SL x s s.heap →
      ∀ (ls : Array Slot), lv_has ls maxL (lv_args 0 as) → va_P D vwCl (WL D x μ) s.heap →
      W p l e rm s m args below meth c s.heap [] 0 0 (vx_MQ below (QX D x μ' v) XF args s mc ms (rng x)) (F0 m 0 ls [])) : LC l y ws rm mc ms as D x μ v μ' := by
  refine vx_ofWH (cc := cc) (maxL := maxL) (ret := ret) (hh := hh) hy hw ?_
  intro p e s m args below meth c s₁ B hml hv
  obtain ⟨rfl, hP, hK, hG⟩ := hv
  rw [lg_entry_eq]
  have hts := atoms_spec (ws := ws) B.pre
  exact body p e s m as.toArray below meth c ⟨B.exec, B.bytes, hml, findClass_of_methodNamed B.named, hts⟩ B.returns B.notSynchronized (vx_table (x := y) B (hts _ (by rw [hw]; exact List.mem_cons_self))) hK hG _ (lv_entry as hn) hP
theorem LC.of {l : Launch} {y : MethodName} {ws ws' : List Cond} {rm : Room} {mc ms : Nat} {as : List Value} {D : va_G} {x : Nat} {μ μ' : Mem} {v : Option Value} {cc : ByteArray} {maxL : Nat} {ret : Option FieldType}
    (hy : plainName y.cls = true) (hw : ws = Cond.code y cc maxL ret :: ws') (hn : (lg_sl as).length ≤ maxL)
    (body : ∀ p e s m args below meth c, CallFix p m c cc maxL s args ws y.cls → meth.sig.returnType = ret → meth.locks = false → va_K D vwCl (tyX D) s → SL x s s.heap →
      ∀ (ls : Array Slot) (H : Heap) (locs : List Loc), lv_has ls maxL (lv_args 0 as) → va_P D vwCl (WL D x μ) H → va_S (rng x) s.heap H locs →
      W p l e rm s m args below meth c H locs 0 0 (vx_MQ below (QX D x μ' v) XF args s mc ms (rng x)) (F0 m 0 ls [])) : LC l y ws rm mc ms as D x μ v μ' := by
  refine vx_ofW (cc := cc) (maxL := maxL) (ret := ret) hy hw ?_
  intro p e s m args below meth c s₁ B hml hx hv
  obtain ⟨rfl, hP, hK, hG⟩ := hv
  rw [lg_entry_eq]
  exact body p e s m as.toArray below meth c ⟨B.exec, B.bytes, hml, findClass_of_methodNamed B.named, atoms_spec (ws := ws) B.pre⟩ B.returns B.notSynchronized hK hG _ _ _ (lv_entry as hn) hP va_S.rf
section LR
variable {p : Program} {l : Launch} {e : Env} {R : Room} {s : State} {m : MethodId} {args : Array Value} {below : List Frame} {meth : Method} {c : Code} {H : Heap} {locs : List Loc} {cells slots : Nat} {Q : State → Prop}
variable {cc : ByteArray} {pc : Nat} {ls : Array Slot} {rest : List Value} {D : va_G} {x : Nat} {μ : Mem} {H0 : Heap} {own : String} {Ts : List Cond} {nL : Nat}
theorem sl_U {U : State} (hG : SL x s s.heap) (hS : va_S (rng x) s.heap H locs) (hU : U.heap = H) (hW : s.WarmedH U.vm) : SL x U U.heap := SL.to hG hW (fun a ha hna => by rw [hU]; exact hS.2.1 a ha hna)
/-- behind a call that doesn't throw: its world put back, all else unchanged -/
theorem a_run {A : Nat → Prop} {μ' : Mem} {k0 : Prop} {v : Option Value} {mc ms : Nat} {st0 : List Value} {XC : String → State → State → Prop} (hX : ∀ E a b, ¬ XC E a b) (hr : vx_Run p l e R s m args below meth c H locs cells slots mc ms (F0 m pc ls st0) rest (fun st o t => k0 ∧ o = .returned v ∧ va_P D vwCl (WL D x μ') t.heap ∧ va_F (rng x) st t) XC (rng x)) (hA : ∀ a, rng x a → A a) (hS : va_S A s.heap H locs)
    (kk : ∀ (H1 : Heap) (locs1 : List Loc), va_P D vwCl (WL D x μ') H1 → va_S A s.heap H1 locs1 → (∀ a : Nat, a < H.size → ¬ rng x a → H1[a]? = H[a]?) → W p l e R s m args below meth c H1 locs1 (cells + mc) (slots + ms) Q (F0 m (pc + 3) ls (v.toList ++ rest))) : W p l e R s m args below meth c H locs cells slots Q (F0 m pc ls st0) := by
  intro T hT X
  rcases hr T hT X with ⟨v2, st₀, t, T', L, h0, X', hL, e1, e2, ⟨_, hv, hb, hF⟩, st⟩ | ⟨q9, st₀, t, T', L, E, ce, h0, X', hL, e1, e2, hXF, hce, hcv, hcl, st⟩
  · cases hv
    obtain ⟨j1, j2, j3⟩ := vx_keep (A0 := A) (A1 := rng x) h0 e1 hS (fun a _ h => hA a h) (fun a h => hA a h) hL hF
    obtain ⟨t2, a1, b1⟩ := kk T'.heap (locs ++ L) (by rw [e1]; exact hb) j3 j2 T' rfl X'
    exact ⟨t2, st t2 a1, b1⟩
  · exact absurd hXF (hX _ _ _)
theorem a_run0 {A : Nat → Prop} {μ' : Mem} {v : Option Value} {mc ms : Nat} {st0 : List Value} (hr : vx_Run p l e R s m args below meth c H locs cells slots mc ms (F0 m pc ls st0) rest (fun st o t => o = .returned v ∧ va_P D vwCl (WL D x μ') t.heap ∧ va_F (rng x) st t) XF (rng x)) (hA : ∀ a, rng x a → A a) (hS : va_S A s.heap H locs)
    (kk : ∀ (H1 : Heap) (locs1 : List Loc), va_P D vwCl (WL D x μ') H1 → va_S A s.heap H1 locs1 → (∀ a : Nat, a < H.size → ¬ rng x a → H1[a]? = H[a]?) → W p l e R s m args below meth c H1 locs1 (cells + mc) (slots + ms) Q (F0 m (pc + 3) ls (v.toList ++ rest))) : W p l e R s m args below meth c H locs cells slots Q (F0 m pc ls st0) := by
  intro T hT X
  rcases hr T hT X with ⟨v2, st₀, t, T', L, h0, X', hL, e1, e2, ⟨hv, hb, hF⟩, st⟩ | ⟨q9, st₀, t, T', L, E, ce, h0, X', hL, e1, e2, hXF, hce, hcv, hcl, st⟩
  · cases hv
    obtain ⟨j1, j2, j3⟩ := vx_keep (A0 := A) (A1 := rng x) h0 e1 hS (fun a _ h => hA a h) (fun a h => hA a h) hL hF
    obtain ⟨t2, a1, b1⟩ := kk T'.heap (locs ++ L) (by rw [e1]; exact hb) j3 j2 T' rfl X'
    exact ⟨t2, st t2 a1, b1⟩
  · exact False.elim hXF
/-- a static method of the law without a table -/
theorem a_S {A : Nat → Prop} (F : CallFix p m c cc nL s args Ts own) (hK : va_K D vwCl (tyX D) s) (hsl : ∀ U : State, U.heap = H → s.WarmedH U.vm → SL x U U.heap) (hA : ∀ a, rng x a → A a) (hP : va_P D vwCl (WL D x μ) H) (hS : va_S A s.heap H locs)
    {y : MethodName} {ws : List Cond} {rm : Room} {As : List Value} {μ' : Mem} {v : Option Value} {mc ms index n maxL : Nat} {bytes : ByteArray} {ret : Option FieldType} (hM : LC l y ws rm mc ms As D x μ v μ') (cw : CallB R s args own index y bytes maxL ret ws rm mc ms n ∧ (Cond.static y).before args s = true) (hn : As.length = n) {st : List Value} (hst : st = As.reverse ++ rest) (hsz : ls.size = nL)
    (hW : (rest.map fun v => v.category).sum ≤ 8) (hdg : decode cc pc = .ok (.invokestatic index, 3)) (hf : cells + mc ≤ R.cells ∧ slots + ms ≤ R.slots)
    (kk : ∀ (H1 : Heap) (locs1 : List Loc), va_P D vwCl (WL D x μ') H1 → va_S A s.heap H1 locs1 → (∀ a : Nat, a < H.size → ¬ rng x a → H1[a]? = H[a]?) → W p l e R s m args below meth c H1 locs1 (cells + mc) (slots + ms) Q (F0 m (pc + 3) ls (v.toList ++ rest))) : W p l e R s m args below meth c H locs cells slots Q (F0 m pc ls st) :=
  a_run0 (vx_runS (g := F0 m pc ls st) F hM cw ⟨KS.blind, fun U hU hW => ⟨rfl, by rw [hU]; exact hP, va_K.moved hW.alike hK, hsl U hU hW⟩⟩ rfl hn hsz hst (by show 2 * 0 + _ ≤ 8; omega) hdg hf) hA hS kk
/-- a static method of the law with a table: a call that catches -/
theorem a_H {A : Nat → Prop} (F : CallFix p m c cc nL s args Ts own) (hK : va_K D vwCl (tyX D) s) (hsl : ∀ U : State, U.heap = H → s.WarmedH U.vm → SL x U U.heap) (hA : ∀ a, rng x a → A a) (hP : va_P D vwCl (WL D x μ) H) (hS : va_S A s.heap H locs)
    {y : MethodName} {ws : List Cond} {rm : Room} {As : List Value} {μ' : Mem} {v : Option Value} {mc ms index n maxL : Nat} {bytes : ByteArray} {ret : Option FieldType} {hh : List (Nat × Nat × Nat × Nat)} (hM : LC l y ws rm mc ms As D x μ v μ') (cw : vx_CSW R s args own index y bytes maxL ret hh ws rm mc ms n) (hn : As.length = n) {st : List Value} (hst : st = As.reverse ++ rest) (hsz : ls.size = nL)
    (hW : (rest.map fun v => v.category).sum ≤ 8) (hdg : decode cc pc = .ok (.invokestatic index, 3)) (hf : cells + mc ≤ R.cells ∧ slots + ms ≤ R.slots)
    (kk : ∀ (H1 : Heap) (locs1 : List Loc), va_P D vwCl (WL D x μ') H1 → va_S A s.heap H1 locs1 → (∀ a : Nat, a < H.size → ¬ rng x a → H1[a]? = H[a]?) → W p l e R s m args below meth c H1 locs1 (cells + mc) (slots + ms) Q (F0 m (pc + 3) ls (v.toList ++ rest))) : W p l e R s m args below meth c H locs cells slots Q (F0 m pc ls st) :=
  a_run0 (vx_runSX (As := As) (g := F0 m pc ls st) (H := H) (locs := locs) (cells := cells) (slots := slots) (p := p) (l := l) (e := e) (R := R) (below := below) (meth := meth) (rest := rest) F hM cw ⟨KS.blind, fun U hU hW => ⟨rfl, by rw [hU]; exact hP, va_K.moved hW.alike hK, hsl U hU hW⟩⟩ rfl hn hsz hst (by show 2 * 0 + _ ≤ 8; omega) hdg hf) hA hS kk
/-- a method of the class on the object, one that throws nothing -/
theorem a_V {A : Nat → Prop} (F : CallFix p m c cc nL s args Ts own) (hK : va_K D vwCl (tyX D) s) (hsl : ∀ U : State, U.heap = H → s.WarmedH U.vm → SL x U U.heap) (hA : ∀ a, rng x a → A a) (hP : va_P D vwCl (WL D x μ) H) (hS : va_S A s.heap H locs)
    {y : MethodName} {ws : List Cond} {rm : Room} {As : List Value} {μ' : Mem} {v : Option Value} {index n maxL : Nat} {bytes : ByteArray} {ret : Option FieldType} (hM : CX l y ws rm (.ref (x + 0) :: As) D x μ v μ') (cw : CallW R s args own RX4 index y bytes maxL ret ws rm 0 0 n) (hn : As.length = n) {st : List Value} (hst : st = As.reverse ++ .ref (x + 0) :: rest) (hsz : ls.size = nL)
    (hW : (rest.map fun v => v.category).sum ≤ 8) (hdg : decode cc pc = .ok (.invokevirtual index, 3)) (hf : cells ≤ R.cells ∧ slots ≤ R.slots)
    (kk : ∀ (H1 : Heap) (locs1 : List Loc), va_P D vwCl (WL D x μ') H1 → va_S A s.heap H1 locs1 → (∀ a : Nat, a < H.size → ¬ rng x a → H1[a]? = H[a]?) → W p l e R s m args below meth c H1 locs1 cells slots Q (F0 m (pc + 3) ls (v.toList ++ rest))) : W p l e R s m args below meth c H locs cells slots Q (F0 m pc ls st) := by
  have hr := va_runV (g := F0 m pc ls st) (H := H) (locs := locs) (cells := cells) (slots := slots) (p := p) (l := l) (e := e) (R := R) (below := below) (meth := meth) (rest := rest) F hM cw ⟨KX.blind, x_recv hK hP (o := 0) (by decide) (q := (0, 0, 0)) rfl (ci := 4) (fun _ => rfl) rfl, fun U hU hW => ⟨rfl, by rw [hU]; exact hP, va_K.moved hW.alike hK, (hsl U hU hW).1⟩⟩ rfl hn hsz hst (by show 2 * 0 + _ ≤ 8; omega) hdg hf
  intro T hT X
  obtain ⟨v2, st₀, t, T', L, h0, X', hL, e1, e2, ⟨hv, hb, hF⟩, st⟩ := hr T hT X
  cases hv
  obtain ⟨j1, j2, j3⟩ := vx_keep (A0 := A) (A1 := rng x) h0 e1 hS (fun a _ h => hA a h) (fun a h => hA a h) hL hF
  obtain ⟨t2, a1, b1⟩ := kk T'.heap (locs ++ L) (by rw [e1]; exact hb) j3 j2 T' rfl X'
  exact ⟨t2, st t2 a1, b1⟩
/-- one that could throw, and doesn't -/
theorem a_VT {A : Nat → Prop} (F : CallFix p m c cc nL s args Ts own) (hK : va_K D vwCl (tyX D) s) (hsl : ∀ U : State, U.heap = H → s.WarmedH U.vm → SL x U U.heap) (hA : ∀ a, rng x a → A a) (hP : va_P D vwCl (WL D x μ) H) (hS : va_S A s.heap H locs)
    {y : MethodName} {ws : List Cond} {rm : Room} {As : List Value} {μ' : Mem} {k : Nat} {v : Option Value} {mc ms index n maxL : Nat} {bytes : ByteArray} {ret : Option FieldType} (hM : TX l y ws rm mc ms (.ref (x + 0) :: As) D x μ k v μ') (hk : k = 0) (cw : CallW R s args own RX4 index y bytes maxL ret ws rm mc ms n) (hn : As.length = n) {st : List Value} (hst : st = As.reverse ++ .ref (x + 0) :: rest) (hsz : ls.size = nL)
    (hW : (rest.map fun v => v.category).sum ≤ 8) (hdg : decode cc pc = .ok (.invokevirtual index, 3)) (hf : cells + mc ≤ R.cells ∧ slots + ms ≤ R.slots)
    (kk : ∀ (H1 : Heap) (locs1 : List Loc), va_P D vwCl (WL D x μ') H1 → va_S A s.heap H1 locs1 → (∀ a : Nat, a < H.size → ¬ rng x a → H1[a]? = H[a]?) → W p l e R s m args below meth c H1 locs1 (cells + mc) (slots + ms) Q (F0 m (pc + 3) ls (v.toList ++ rest))) : W p l e R s m args below meth c H locs cells slots Q (F0 m pc ls st) :=
  a_run (XC := XT D x μ' k) (fun _ _ _ h => h.1 hk) (vx_runV (g := F0 m pc ls st) F hM cw ⟨KX.blind, x_recv hK hP (o := 0) (by decide) (q := (0, 0, 0)) rfl (ci := 4) (fun _ => rfl) rfl, fun U hU hW => ⟨rfl, by rw [hU]; exact hP, va_K.moved hW.alike hK, (hsl U hU hW).1⟩⟩ rfl hn hsz hst (by show 2 * 0 + _ ≤ 8; omega) hdg hf) hA hS kk
/-- the call inside a helper: it answers, or what it throws goes to the table -/
theorem h_V (F : CallFix p m c cc nL s args Ts own) (hK : va_K D vwCl (tyX D) s) (hG : SL x s s.heap) (hP : va_P D vwCl (WL D x μ) s.heap)
    {y : MethodName} {ws : List Cond} {rm : Room} {As : List Value} {μ' : Mem} {k mc ms : Nat} {v : Int32} {index n maxL : Nat} {bytes : ByteArray} {ret : Option FieldType} (hM : TX l y ws rm mc ms (.ref (x + 0) :: As) D x μ k (some (.int v)) μ') (cw : CallW R s args own RX4 index y bytes maxL ret ws rm mc ms n) (hn : As.length = n) {st : List Value} (hst : st = As.reverse ++ .ref (x + 0) :: rest) (hsz : ls.size = nL)
    (hW : (rest.map fun v => v.category).sum ≤ 8) (hdg : decode cc pc = .ok (.invokevirtual index, 3)) (hf : cells + mc ≤ R.cells ∧ slots + ms ≤ R.slots)
    (kn : k = 0 → ∀ (H1 : Heap) (locs1 : List Loc), va_P D vwCl (WL D x μ') H1 → va_S (rng x) s.heap H1 locs1 → W p l e R s m args below meth c H1 locs1 (cells + mc) (slots + ms) Q (F0 m (pc + 3) ls (.int v :: rest)))
    (kt : k ≠ 0 → ∀ (H1 : Heap) (locs1 : List Loc) (q9 : Addr) (ce : Cell), va_P D vwCl (WL D x μ') H1 → va_S (rng x) s.heap H1 locs1 → H1[q9]? = some ce → ce.vm = .none → s.vm.findClass (exN k) = some ce.cls → vx_W p l e R s m args below meth c H1 locs1 (cells + mc) (slots + ms) Q (F0 m pc ls rest) q9) : W p l e R s m args below meth c s.heap [] cells slots Q (F0 m pc ls st) := by
  have hr := vx_runV (g := F0 m pc ls st) (H := s.heap) (locs := []) (cells := cells) (slots := slots) (p := p) (l := l) (e := e) (R := R) (below := below) (meth := meth) (rest := rest) F hM cw ⟨KX.blind, x_recv hK hP (o := 0) (by decide) (q := (0, 0, 0)) rfl (ci := 4) (fun _ => rfl) rfl, fun U hU hW => ⟨rfl, by rw [hU]; exact hP, va_K.moved hW.alike hK, by rw [hU]; exact hG.1.to hW (fun _ _ _ => rfl)⟩⟩ rfl hn hsz hst (by show 2 * 0 + _ ≤ 8; omega) hdg hf
  intro T hT X
  rcases hr T hT X with ⟨v2, st₀, t, T', L, h0, X', hL, e1, e2, ⟨hk0, hv, hb, hF⟩, st⟩ | ⟨q9, st₀, t, T', L, E, ce, h0, X', hL, e1, e2, ⟨hk0, hE, hb, hF⟩, hce, hcv, hcl, st⟩
  · cases hv
    obtain ⟨j1, j2, j3⟩ := vx_keep (A0 := rng x) (A1 := rng x) h0 e1 va_S.rf (fun a _ h => h) (fun a h => h) hL hF
    obtain ⟨t2, a1, b1⟩ := kn hk0 T'.heap ([] ++ L) (by rw [e1]; exact hb) j3 T' rfl X'
    exact ⟨t2, st t2 a1, b1⟩
  · obtain ⟨j1, j2, j3⟩ := vx_keep (A0 := rng x) (A1 := rng x) h0 e1 va_S.rf (fun a _ h => h) (fun a h => h) hL hF
    subst hE
    obtain ⟨t2, a1, b1⟩ := kt hk0 T'.heap ([] ++ L) q9 ce (by rw [e1]; exact hb) j3 (by rw [e1]; exact hce) hcv hcl T' rfl X'
    exact ⟨t2, st.trans a1, b1⟩
theorem s_lret {as : Array Value} {v : Int64} {μ' : Mem} {mc ms : Nat} (F : CallFix p m c cc nL s as Ts own) (hr : meth.sig.returnType = some .long) (hlk : meth.locks = false) (hP : va_P D vwCl (WL D x μ) H) (hS : va_S (rng x) s.heap H locs) (hm : μ = μ') (hc : cells ≤ mc) (hs : slots ≤ ms) (hdg : decode cc pc = .ok (.lreturn, 1)) :
    W p l e R s m as below meth c H locs cells slots (vx_MQ below (QX D x μ' (some (.long v))) XF as s mc ms (rng x)) (F0 m pc ls [.long v]) :=
  W.widen hc hs (vx_ret (W.lret (v := v) F.1 F.2.1 hr (fun t ht hW => ⟨rfl, by rw [ht, ← hm]; exact hP, hS.F ht⟩) hS.2.2 hdg hlk))
theorem s_zret {as : Array Value} {v : Int32} {μ' : Mem} {mc ms : Nat} (F : CallFix p m c cc nL s as Ts own) (hr : meth.sig.returnType = some .boolean) (hlk : meth.locks = false) (hP : va_P D vwCl (WL D x μ) H) (hS : va_S (rng x) s.heap H locs) (hm : μ = μ') (hb : vp_nar .boolean v = v) (hc : cells ≤ mc) (hs : slots ≤ ms) (hdg : decode cc pc = .ok (.ireturn, 1)) :
    W p l e R s m as below meth c H locs cells slots (vx_MQ below (QX D x μ' (some (.int v))) XF as s mc ms (rng x)) (F0 m pc ls [.int v]) :=
  W.widen hc hs (vx_ret (W.zret (v := v) (ty := .boolean) F.1 F.2.1 hr (by have h : narrow .boolean (.int v) = .int (vp_nar .boolean v) := rfl; rw [h, hb]) (fun t ht hW => ⟨rfl, by rw [ht, ← hm]; exact hP, hS.F ht⟩) hS.2.2 hdg hlk))
end LR
