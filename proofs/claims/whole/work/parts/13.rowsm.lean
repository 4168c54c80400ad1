/-! contracts of the reference's methods; rows over its world -/
def KM (D : va_G) (y : Nat) (ν : Mem) (U : State) : Prop := va_P D vwCl (WM D y ν) U.heap ∧ va_K D vwCl (tyX D) U
theorem KM.blind {as : List Value} {D : va_G} {y : Nat} {ν : Mem} : FrameBlind (va_Pc as (KM D y ν)) := fun a U g mk q => by
  obtain ⟨q0, qP, qK⟩ := q
  exact ⟨q0, qP, va_K.moved (u := U) (U := U.calling g mk a) (Vm.Alike.refl U.vm) qK⟩
def QM (D : va_G) (y : Nat) (ν : Mem) (v : Option Value) : Array Value → State → Outcome → State → Prop := fun _ st o t => o = .returned v ∧ va_P D vwCl (WM D y ν) t.heap ∧ va_F (rngM y) st t
def CM (l : Launch) (yn : MethodName) (ws : List Cond) (rm : Room) (as : List Value) (D : va_G) (y : Nat) (ν : Mem) (v : Option Value) (ν' : Mem) : Prop := Met l yn ws rm (va_Pc as (KM D y ν)) (QM D y ν' v) 0 0 (rngM y)
theorem CM.of {l : Launch} {yn : MethodName} {ws ws' : List Cond} {rm : Room} {as : List Value} {D : va_G} {y : Nat} {ν ν' : Mem} {v : Option Value} {cc : ByteArray} {maxL : Nat} {ret : Option FieldType}
    (hy : plainName yn.cls = true) (hw : ws = Cond.code yn cc maxL ret :: ws') (hn : (lg_sl as).length ≤ maxL)
    (body : ∀ p e s m args below meth c, CallFix p m c cc maxL s args ws yn.cls → meth.sig.returnType = ret → meth.locks = false → va_K D vwCl (tyX D) s →
      ∀ (ls : Array Slot) (H : Heap) (locs : List Loc), lv_has ls maxL (lv_args 0 as) → va_P D vwCl (WM D y ν) H → va_S (rngM y) s.heap H locs →
      W p l e rm s m args below meth c H locs 0 0 (MQ below (QM D y ν' v) args s 0 0 (rngM y)) (F0 m 0 ls [])) : CM l yn ws rm as D y ν v ν' := by
  refine Met.ofW (cc := cc) (maxL := maxL) (ret := ret) hy hw ?_
  intro p e s m args below meth c s₁ B hml hv
  obtain ⟨rfl, hP, hK⟩ := hv
  rw [lg_entry_eq]
  exact body p e s m as.toArray below meth c ⟨B.exec, B.bytes, hml, findClass_of_methodNamed B.named, atoms_spec (ws := ws) B.pre⟩ B.returns B.notSynchronized hK _ _ _ (lv_entry as hn) hP va_S.rf
theorem mkM_row {o : Nat} (h1 : 1 ≤ o) (h2 : o ≤ 3) (D : va_G) (y : Nat) (f : Row) : mkM D y o f = .inl (D.1 6, (205, .inl f)) := by
  rcases (show o = 1 ∨ o = 2 ∨ o = 3 by omega) with rfl | rfl | rfl <;> rfl
theorem lnM_row {o : Nat} (h1 : 1 ≤ o) (h2 : o ≤ 3) : lnM o = 205 := by
  rcases (show o = 1 ∨ o = 2 ∨ o = 3 by omega) with rfl | rfl | rfl <;> rfl
theorem m_up {D : va_G} {y : Nat} {ν : Mem} {H : Heap} (o : Nat) (hP : va_P D vwCl (WM D y ν) H) : va_P D vwCl (WM D y (va_up ν o (ν o))) H := by rw [mu_self]; exact hP
section RM
variable {p : Program} {l : Launch} {e : Env} {R : Room} {s : State} {m : MethodId} {args : Array Value} {below : List Frame} {meth : Method} {c : Code} {H : Heap} {locs : List Loc} {cells slots : Nat} {Q : State → Prop}
variable {cc : ByteArray} {pc : Nat} {ls : Array Slot} {rest : List Value} {D : va_G} {y : Nat} {ν : Mem} {H0 : Heap} {own : String} {Ts : List Cond} {nL : Nat}
theorem m_getI (F : CallFix p m c cc nL s args Ts own) (hK : va_K D vwCl (tyX D) s) (hP : va_P D vwCl (WM D y ν) H) {g : Row} (hg : ν 0 = g) {index : Nat} {ref : String}
    (hin : ∀ w ∈ wsX50, w ∈ Ts) (k : Nat) (hkN : k < 13) (hlink : Cond.fieldLink own index ref (TX5 k).2.1 (TX5 k).2.2.1 ∈ Ts) (hsame : ref = (TX5 k).1) (hfk : ∀ f : Row, ([Value.int (f 0), .ref (y + 1), .ref (y + 2), .ref (y + 3), .ref (y + 4), .int (f 5), .ref (y + 5), .ref (y + 6), .ref (y + 7), .int (f 9), .int (f 10), .int (f 11), .int (f 12)])[k]? = some (.int (f k)))
    (hdg : decode cc pc = .ok (.getfield index, 3)) (kk : W p l e R s m args below meth c H locs cells slots Q (F0 m (pc + 3) ls (.int (g k) :: rest))) : W p l e R s m args below meth c H locs cells slots Q (F0 m pc ls (.ref y :: rest)) :=
  va_get (C := RX5) (T := TX5) (N := 13) (ci := 5) F.1 F.2.1 F.2.2.2.2 hin F.2.2.2.1 hK hP 0 (WM_at (D := D) (y := y) (ν := ν) (o := 0) (by omega)) rfl k hkN (F.2.2.2.2 _ hlink) (fun z hz => by rw [hsame]; exact hz) (v := .int (g k)) (by rw [hfk, valsM_at hg hkN]) hdg kk
theorem m_getR (F : CallFix p m c cc nL s args Ts own) (hK : va_K D vwCl (tyX D) s) (hP : va_P D vwCl (WM D y ν) H) {index : Nat} {ref : String}
    (hin : ∀ w ∈ wsX50, w ∈ Ts) (k : Nat) (hkN : k < 13) (hlink : Cond.fieldLink own index ref (TX5 k).2.1 (TX5 k).2.2.1 ∈ Ts) (hsame : ref = (TX5 k).1) {v : Value} (hfk : ∀ f : Row, ([Value.int (f 0), .ref (y + 1), .ref (y + 2), .ref (y + 3), .ref (y + 4), .int (f 5), .ref (y + 5), .ref (y + 6), .ref (y + 7), .int (f 9), .int (f 10), .int (f 11), .int (f 12)])[k]? = some v)
    (hdg : decode cc pc = .ok (.getfield index, 3)) (kk : W p l e R s m args below meth c H locs cells slots Q (F0 m (pc + 3) ls (v :: rest))) : W p l e R s m args below meth c H locs cells slots Q (F0 m pc ls (.ref y :: rest)) :=
  va_get (C := RX5) (T := TX5) (N := 13) (ci := 5) F.1 F.2.1 F.2.2.2.2 hin F.2.2.2.1 hK hP 0 (WM_at (D := D) (y := y) (ν := ν) (o := 0) (by omega)) rfl k hkN (F.2.2.2.2 _ hlink) (fun z hz => by rw [hsame]; exact hz) (v := v) (hfk _) hdg kk
theorem m_putI (F : CallFix p m c cc nL s args Ts own) (hK : va_K D vwCl (tyX D) s) {g : Row} (hP : va_P D vwCl (WM D y (va_up ν 0 g)) H) (hS : va_S (rngM y) H0 H locs) {index : Nat} {ref : String}
    (hin : ∀ w ∈ wsX50, w ∈ Ts) (k : Nat) (hkN : k < 13) (hlink : Cond.fieldLink own index ref (TX5 k).2.1 (TX5 k).2.2.1 ∈ Ts) (hsame : ref = (TX5 k).1) (hfin : (TX5 k).2.2.2 = false) {ty : FieldType} (hd : parseFieldDescriptor (TX5 k).2.2.1 = some ty) {v : Int32} (hv1 : narrow ty (.int v) = .int v) (hv2 : fits ty (.int v) = true)
    (hset : ∀ (f : Row) (v : Int32), ([Value.int (f 0), .ref (y + 1), .ref (y + 2), .ref (y + 3), .ref (y + 4), .int (f 5), .ref (y + 5), .ref (y + 6), .ref (y + 7), .int (f 9), .int (f 10), .int (f 11), .int (f 12)]).set k (.int v) = [Value.int (upd f k v 0), .ref (y + 1), .ref (y + 2), .ref (y + 3), .ref (y + 4), .int (upd f k v 5), .ref (y + 5), .ref (y + 6), .ref (y + 7), .int (upd f k v 9), .int (upd f k v 10), .int (upd f k v 11), .int (upd f k v 12)])
    (hdg : decode cc pc = .ok (.putfield index, 3)) (kk : ∀ (H1 : Heap) (locs1 : List Loc), va_P D vwCl (WM D y (va_up ν 0 (upd g k v))) H1 → va_S (rngM y) H0 H1 locs1 → W p l e R s m args below meth c H1 locs1 cells slots Q (F0 m (pc + 3) ls rest)) : W p l e R s m args below meth c H locs cells slots Q (F0 m pc ls (.int v :: .ref y :: rest)) := by
  refine va_put (C := RX5) (T := TX5) (N := 13) (ci := 5) F.1 F.2.1 F.2.2.2.2 hin tyX5 tyX5_ok nmX5 F.2.2.2.1 hK hP (WM_D D y _) hS 0 (WM_at (D := D) (y := y) (ν := va_up ν 0 g) (o := 0) (by omega)) rfl k hkN (F.2.2.2.2 _ hlink) (fun z hz => by rw [hsame]; exact hz) hfin (ty := ty) (v := .int v) hd hv1 hv2 hkN hdg fun H1 locs1 h1 _ h3 => kk H1 locs1 ?_ h3
  rw [hset] at h1
  have e := WM_set (D := D) (y := y) (ν := ν) (o := 0) (g := g) (by omega) (j := k) hkN v
  rw [← e]
  exact h1
theorem m_iald (F : CallFix p m c cc nL s args Ts own) (hK : va_K D vwCl (tyX D) s) (hP : va_P D vwCl (WM D y ν) H) {o : Nat} (ho : o < 8) {g : Row} (hg : ν o = g) {n : Nat} (hmk : ∀ f, mkM D y o f = .inl (D.1 6, (n, .inl f))) (hn : lnM o = n) {i : Int32} (hin : ¬ oob i n)
    (hdg : decode cc pc = .ok (.iaload, 1)) (kk : W p l e R s m args below meth c H locs cells slots Q (F0 m (pc + 1) ls (.int (g i.toNatClampNeg) :: rest))) : W p l e R s m args below meth c H locs cells slots Q (F0 m pc ls (.int i :: .ref (y + o) :: rest)) := by
  have h := va_iald (D := D) (cl := vwCl) (tys := tyX D) (ws := WM D y ν) F.1 F.2.1 hK hP o 0 (cA := D.1 6) (n := n) (f := valsM ν o) ((WM_at ho).trans (by rw [hmk])) rfl (i := i) (rest := rest) (ls := ls) (locs := locs) (cells := cells) (slots := slots) (Q := Q) (p := p) (l := l) (e := e) (R := R) (m := m) (args := args) (below := below) (meth := meth) hin hdg
  rw [valsM_at hg (by rw [hn]; exact oob_lt hin)] at h
  exact h kk
theorem m_zald (F : CallFix p m c cc nL s args Ts own) (hK : va_K D vwCl (tyX D) s) (hP : va_P D vwCl (WM D y ν) H) {o : Nat} (ho : o < 8) {g : Row} (hg : ν o = g) {n : Nat} (hmk : ∀ f, mkM D y o f = .inl (D.1 7, (n, .inl f))) (hn : lnM o = n) {i : Int32} (hin : ¬ oob i n)
    (hdg : decode cc pc = .ok (.baload, 1)) (kk : W p l e R s m args below meth c H locs cells slots Q (F0 m (pc + 1) ls (.int (g i.toNatClampNeg) :: rest))) : W p l e R s m args below meth c H locs cells slots Q (F0 m pc ls (.int i :: .ref (y + o) :: rest)) := by
  have h := va_zald (D := D) (cl := vwCl) (tys := tyX D) (ws := WM D y ν) F.1 F.2.1 hK hP o 1 (cA := D.1 7) (n := n) (f := valsM ν o) ((WM_at ho).trans (by rw [hmk])) rfl (i := i) (rest := rest) (ls := ls) (locs := locs) (cells := cells) (slots := slots) (Q := Q) (p := p) (l := l) (e := e) (R := R) (m := m) (args := args) (below := below) (meth := meth) hin hdg
  rw [valsM_at hg (by rw [hn]; exact oob_lt hin)] at h
  exact h kk
theorem m_iast (F : CallFix p m c cc nL s args Ts own) (hK : va_K D vwCl (tyX D) s) {o : Nat} {g : Row} (hP : va_P D vwCl (WM D y (va_up ν o g)) H) (hS : va_S (rngM y) H0 H locs) (ho : o < 8) {n : Nat} (hmk : ∀ f, mkM D y o f = .inl (D.1 6, (n, .inl f))) (hn : lnM o = n) {i : Int32} (hin : ¬ oob i n) {v : Int32}
    (hdg : decode cc pc = .ok (.iastore, 1)) (kk : ∀ (H1 : Heap) (locs1 : List Loc), va_P D vwCl (WM D y (va_up ν o (upd g i.toNatClampNeg v))) H1 → va_S (rngM y) H0 H1 locs1 → W p l e R s m args below meth c H1 locs1 cells slots Q (F0 m (pc + 1) ls rest)) : W p l e R s m args below meth c H locs cells slots Q (F0 m pc ls (.int v :: .int i :: .ref (y + o) :: rest)) := by
  refine va_iast F.1 F.2.1 hK hP (WM_D D y _) hS o 0 (cA := D.1 6) (n := n) (f := valsM (va_up ν o g) o) ((WM_at ho).trans (by rw [hmk])) rfl hin hdg fun H1 locs1 h1 _ h3 => kk H1 locs1 ?_ h3
  rw [← hmk, WM_set ho (by rw [hn]; exact oob_lt hin) v] at h1
  exact h1
theorem m_zast (F : CallFix p m c cc nL s args Ts own) (hK : va_K D vwCl (tyX D) s) {o : Nat} {g : Row} (hP : va_P D vwCl (WM D y (va_up ν o g)) H) (hS : va_S (rngM y) H0 H locs) (ho : o < 8) {n : Nat} (hmk : ∀ f, mkM D y o f = .inl (D.1 7, (n, .inl f))) (hn : lnM o = n) {i : Int32} (hin : ¬ oob i n) {v : Int32} (hb : vp_nar .boolean v = v)
    (hdg : decode cc pc = .ok (.bastore, 1)) (kk : ∀ (H1 : Heap) (locs1 : List Loc), va_P D vwCl (WM D y (va_up ν o (upd g i.toNatClampNeg v))) H1 → va_S (rngM y) H0 H1 locs1 → W p l e R s m args below meth c H1 locs1 cells slots Q (F0 m (pc + 1) ls rest)) : W p l e R s m args below meth c H locs cells slots Q (F0 m pc ls (.int v :: .int i :: .ref (y + o) :: rest)) := by
  refine va_zast F.1 F.2.1 hK hP (WM_D D y _) hS o 1 (cA := D.1 7) (n := n) (f := valsM (va_up ν o g) o) ((WM_at ho).trans (by rw [hmk])) rfl hin hdg fun H1 locs1 h1 _ h3 => kk H1 locs1 ?_ h3
  rw [hb, ← hmk, WM_set ho (by rw [hn]; exact oob_lt hin) v] at h1
  exact h1
theorem m_iret {as : Array Value} {v : Int32} {ν' : Mem} (F : CallFix p m c cc nL s as Ts own) (hr : meth.sig.returnType = some .int) (hlk : meth.locks = false) (hP : va_P D vwCl (WM D y ν) H) (hS : va_S (rngM y) s.heap H locs) (hm : ν = ν') (hdg : decode cc pc = .ok (.ireturn, 1)) :
    W p l e R s m as below meth c H locs 0 0 (MQ below (QM D y ν' (some (.int v))) as s 0 0 (rngM y)) (F0 m pc ls [.int v]) :=
  W.iret (v := v) F.1 F.2.1 hr (fun t ht hW => ⟨rfl, by rw [ht, ← hm]; exact hP, hS.F ht⟩) hS.2.2 hdg hlk
theorem m_lret {as : Array Value} {v : Int64} {ν' : Mem} (F : CallFix p m c cc nL s as Ts own) (hr : meth.sig.returnType = some .long) (hlk : meth.locks = false) (hP : va_P D vwCl (WM D y ν) H) (hS : va_S (rngM y) s.heap H locs) (hm : ν = ν') (hdg : decode cc pc = .ok (.lreturn, 1)) :
    W p l e R s m as below meth c H locs 0 0 (MQ below (QM D y ν' (some (.long v))) as s 0 0 (rngM y)) (F0 m pc ls [.long v]) :=
  W.lret (v := v) F.1 F.2.1 hr (fun t ht hW => ⟨rfl, by rw [ht, ← hm]; exact hP, hS.F ht⟩) hS.2.2 hdg hlk
theorem m_zret {as : Array Value} {v : Int32} {ν' : Mem} (F : CallFix p m c cc nL s as Ts own) (hr : meth.sig.returnType = some .boolean) (hlk : meth.locks = false) (hP : va_P D vwCl (WM D y ν) H) (hS : va_S (rngM y) s.heap H locs) (hm : ν = ν') (hb : vp_nar .boolean v = v) (hdg : decode cc pc = .ok (.ireturn, 1)) :
    W p l e R s m as below meth c H locs 0 0 (MQ below (QM D y ν' (some (.int v))) as s 0 0 (rngM y)) (F0 m pc ls [.int v]) :=
  W.zret (v := v) (ty := .boolean) F.1 F.2.1 hr (by have h : narrow .boolean (.int v) = .int (vp_nar .boolean v) := rfl; rw [h, hb]) (fun t ht hW => ⟨rfl, by rw [ht, ← hm]; exact hP, hS.F ht⟩) hS.2.2 hdg hlk
theorem m_vret {as : Array Value} {ν' : Mem} (F : CallFix p m c cc nL s as Ts own) (hr : meth.sig.returnType = none) (hlk : meth.locks = false) (hP : va_P D vwCl (WM D y ν) H) (hS : va_S (rngM y) s.heap H locs) (hm : ν = ν') (hdg : decode cc pc = .ok (.return_, 1)) :
    W p l e R s m as below meth c H locs 0 0 (MQ below (QM D y ν' none) as s 0 0 (rngM y)) (F0 m pc ls []) :=
  W.vret F.1 F.2.1 hr (fun t ht hW => ⟨rfl, by rw [ht, ← hm]; exact hP, hS.F ht⟩) hS.2.2 hdg hlk
theorem m_run {ν' : Mem} {v : Option Value} {st0 : List Value} (hr : va_Run p l e R s m args below meth c H locs cells slots 0 0 (F0 m pc ls st0) rest (fun st o t => o = .returned v ∧ va_P D vwCl (WM D y ν') t.heap ∧ va_F (rngM y) st t) (rngM y)) (hS : va_S (rngM y) H0 H locs)
    (kk : ∀ (H1 : Heap) (locs1 : List Loc), va_P D vwCl (WM D y ν') H1 → va_S (rngM y) H0 H1 locs1 → W p l e R s m args below meth c H1 locs1 cells slots Q (F0 m (pc + 3) ls (v.toList ++ rest))) : W p l e R s m args below meth c H locs cells slots Q (F0 m pc ls st0) := by
  intro T hT X
  obtain ⟨v2, st₀, t, T', L, h0, X', hL, e1, e2, ⟨hv, hb, hF⟩, st⟩ := hr T hT X
  cases hv
  obtain ⟨k1, k2, k3⟩ := vx_keep h0 e1 hS (fun q _ h => h) (fun q h => h) hL hF
  obtain ⟨t2, a1, b1⟩ := kk T'.heap (locs ++ L) (by rw [e1]; exact hb) k3 T' rfl X'
  exact ⟨t2, st t2 a1, b1⟩
theorem m_recv (hK : va_K D vwCl (tyX D) s) (hP : va_P D vwCl (WM D y ν) H) : ∃ cellB : Cell, H[y]? = some cellB ∧ cellB.vm.isStatics = false ∧ s.vm.findClass RX5 = some cellB.cls := by
  obtain ⟨r, h1, cell, q1, q2, q3, q4⟩ := hP 0 _ (WM_at (D := D) (y := y) (ν := ν) (o := 0) (by omega))
  have hr : r = (RX5, TX5, 13) := Option.some.inj (h1.symm.trans rfl)
  subst hr
  exact ⟨cell, q1, by rw [q3]; rfl, by rw [q2]; exact (hK.1 5 _ rfl).2.1⟩
theorem m_callV (F : CallFix p m c cc nL s args Ts own) (hK : va_K D vwCl (tyX D) s) (hP : va_P D vwCl (WM D y ν) H) (hS : va_S (rngM y) s.heap H locs)
    {yn : MethodName} {ws : List Cond} {rm : Room} {As : List Value} {ν' : Mem} {v : Option Value} {index n maxL : Nat} {bytes : ByteArray} {ret : Option FieldType} (hM : CM l yn ws rm (.ref y :: As) D y ν v ν') (cw : CallW R s args own RX5 index yn bytes maxL ret ws rm 0 0 n) (hn : As.length = n) {st : List Value} (hst : st = As.reverse ++ .ref y :: rest) (hsz : ls.size = nL)
    (hW : (rest.map fun v => v.category).sum ≤ 8) (hdg : decode cc pc = .ok (.invokevirtual index, 3)) (hf : cells ≤ R.cells ∧ slots ≤ R.slots) (kk : ∀ (H1 : Heap) (locs1 : List Loc), va_P D vwCl (WM D y ν') H1 → va_S (rngM y) s.heap H1 locs1 → W p l e R s m args below meth c H1 locs1 cells slots Q (F0 m (pc + 3) ls (v.toList ++ rest))) : W p l e R s m args below meth c H locs cells slots Q (F0 m pc ls st) :=
  m_run (va_runV (g := F0 m pc ls st) F hM cw ⟨KM.blind, m_recv hK hP, fun U hU hW => ⟨rfl, by rw [hU]; exact hP, va_K.moved hW.alike hK⟩⟩ rfl hn hsz hst (by show 2 * 0 + _ ≤ 8; omega) hdg hf) hS kk
theorem m_callS (F : CallFix p m c cc nL s args Ts own) (hK : va_K D vwCl (tyX D) s) (hP : va_P D vwCl (WM D y ν) H) (hS : va_S (rngM y) s.heap H locs)
    {yn : MethodName} {ws : List Cond} {rm : Room} {As : List Value} {ν' : Mem} {v : Option Value} {index n maxL : Nat} {bytes : ByteArray} {ret : Option FieldType} (hM : CM l yn ws rm As D y ν v ν') (cw : CallB R s args own index yn bytes maxL ret ws rm 0 0 n ∧ (Cond.static yn).before args s = true) (hn : As.length = n) {st : List Value} (hst : st = As.reverse ++ rest) (hsz : ls.size = nL)
    (hW : (rest.map fun v => v.category).sum ≤ 8) (hdg : decode cc pc = .ok (.invokestatic index, 3)) (hf : cells ≤ R.cells ∧ slots ≤ R.slots) (kk : ∀ (H1 : Heap) (locs1 : List Loc), va_P D vwCl (WM D y ν') H1 → va_S (rngM y) s.heap H1 locs1 → W p l e R s m args below meth c H1 locs1 cells slots Q (F0 m (pc + 3) ls (v.toList ++ rest))) : W p l e R s m args below meth c H locs cells slots Q (F0 m pc ls st) :=
  m_run (va_runS (g := F0 m pc ls st) F hM cw ⟨KM.blind, fun U hU hW => ⟨rfl, by rw [hU]; exact hP, va_K.moved hW.alike hK⟩⟩ rfl hn hsz hst (by show 2 * 0 + _ ≤ 8; omega) hdg hf) hS kk
end RM
