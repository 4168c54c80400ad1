/-! constructors: what is being made lies in one row of cells from b on, the heap's last ones -/
def sq (b : Nat) : Nat → List va_E → va_W
  | _, [] => []
  | k, e :: es => (b + k, e) :: sq b (k + 1) es
theorem sq_get (b : Nat) : ∀ (es : List va_E) (k j : Nat) (e : va_E), es[j]? = some e → (sq b k es)[j]? = some (b + (k + j), e)
  | [], _, _, _, h => by simp at h
  | a :: es, k, 0, e, h => by
    rw [List.getElem?_cons_zero] at h
    cases h
    rfl
  | a :: es, k, j + 1, e, h => by
    rw [List.getElem?_cons_succ] at h
    show (sq b (k + 1) es)[j]? = _
    rw [sq_get b es (k + 1) j e h, show k + 1 + j = k + (j + 1) by omega]
theorem sq_inv (b : Nat) : ∀ (es : List va_E) (k j : Nat) (q : Nat × va_E), (sq b k es)[j]? = some q → es[j]? = some q.2 ∧ q.1 = b + (k + j)
  | [], _, _, _, h => by simp [sq] at h
  | a :: es, k, 0, q, h => by
    have h1 : some (b + k, a) = some q := h
    cases h1
    exact ⟨rfl, rfl⟩
  | a :: es, k, j + 1, q, h => by
    have h1 : (sq b (k + 1) es)[j]? = some q := h
    obtain ⟨h2, h3⟩ := sq_inv b es (k + 1) j q h1
    exact ⟨by rw [List.getElem?_cons_succ]; exact h2, by omega⟩
theorem sq_len (b : Nat) : ∀ (es : List va_E) (k : Nat), (sq b k es).length = es.length
  | [], _ => rfl
  | _ :: es, k => by
    show (sq b (k + 1) es).length + 1 = _
    rw [sq_len b es (k + 1)]
    rfl
theorem sq_app (b : Nat) : ∀ (es fs : List va_E) (k : Nat), sq b k (es ++ fs) = sq b k es ++ sq b (k + es.length) fs
  | [], fs, k => rfl
  | e :: es, fs, k => by
    show (b + k, e) :: sq b (k + 1) (es ++ fs) = (b + k, e) :: (sq b (k + 1) es ++ sq b (k + (es.length + 1)) fs)
    rw [sq_app b es fs (k + 1), show k + 1 + es.length = k + (es.length + 1) by omega]
theorem sq_shift (b c : Nat) : ∀ (es : List va_E) (k : Nat), sq (b + c) k es = sq b (c + k) es
  | [], _ => rfl
  | e :: es, k => by
    show (b + c + k, e) :: sq (b + c) (k + 1) es = (b + (c + k), e) :: sq b (c + k + 1) es
    rw [sq_shift b c es (k + 1), Nat.add_assoc]
    rfl
theorem sq_set (b : Nat) : ∀ (es : List va_E) (k j : Nat) (e : va_E), (sq b k es).set j (b + (k + j), e) = sq b k (es.set j e)
  | [], _, _, _ => rfl
  | a :: es, k, 0, e => rfl
  | a :: es, k, j + 1, e => by
    show (b + k, a) :: (sq b (k + 1) es).set j (b + (k + (j + 1)), e) = (b + k, a) :: sq b (k + 1) (es.set j e)
    rw [show k + (j + 1) = k + 1 + j by omega, sq_set b es (k + 1) j e]
def bge (b : Nat) (q : Nat) : Prop := b ≤ q
theorem sq_D (b : Nat) (es : List va_E) : va_D (bge b) (sq b 0 es) := by
  refine ⟨fun i j p q hi hj e => ?_, fun k q hk => ?_⟩
  · have h1 := (sq_inv b es 0 i p hi).2
    have h2 := (sq_inv b es 0 j q hj).2
    omega
  · have h1 := (sq_inv b es 0 k q hk).2
    show b ≤ q.1
    omega
/-- what a constructor takes as given beside the heap -/
def KC (D : va_G) (U : State) : Prop := va_K D vwCl (tyX D) U ∧ va_AO RX0 U ∧ va_AO RX2 U ∧ va_Nw (.methodLinkNest RX4 9 yX3_init RX4) U
theorem KC.warm {D : va_G} {s U : State} (hW : s.WarmedH U.vm) (h : KC D s) : KC D U := ⟨va_K.moved hW.alike h.1, va_AO.moved hW.alike h.2.1, va_AO.moved hW.alike h.2.2.1, va_Nw.warmM hW h.2.2.2⟩
def QC (D : va_G) (b n : Nat) (es : List va_E) : Array Value → State → Outcome → State → Prop := fun _ st o t => o = .returned none ∧ t.heap.size = b + n ∧ va_P D vwCl (sq b 0 es) t.heap ∧ va_F (bge b) st t
/-- a constructor of the object at b, the heap's last cell, which holds e0: behind it the n cells es -/
def NC (l : Launch) (y : MethodName) (ws : List Cond) (rm : Room) (mc ms : Nat) (D : va_G) (b n : Nat) (e0 : va_E) (es : List va_E) : Prop := Met l y ws rm (va_Pc [.ref b] (fun U => U.heap.size = b + 1 ∧ va_P D vwCl (sq b 0 [e0]) U.heap ∧ KC D U)) (QC D b n es) mc ms (bge b)
theorem NC.of {l : Launch} {y : MethodName} {ws ws' : List Cond} {rm : Room} {mc ms : Nat} {D : va_G} {b n : Nat} {e0 : va_E} {es : List va_E} {cc : ByteArray} {maxL : Nat}
    (hy : plainName y.cls = true) (hw : ws = Cond.code y cc maxL none :: ws') (hn : 1 ≤ maxL) (hi : y.name = "<init>")
    (body : ∀ p e s m args below meth c, CallFix p m c cc maxL s args ws y.cls → meth.sig.returnType = none → meth.locks = false → meth.name = "<init>" → KC D s →
      ∀ (ls : Array Slot) (H : Heap) (locs : List Loc), lv_has ls maxL [(0, .ref b)] → H.size = b + 1 → va_P D vwCl (sq b 0 [e0]) H → va_S (bge b) s.heap H locs →
      W p l e rm s m args below meth c H locs 0 0 (MQ below (QC D b n es) args s mc ms (bge b)) (F0 m 0 ls [])) : NC l y ws rm mc ms D b n e0 es := by
  refine Met.ofW (cc := cc) (maxL := maxL) (ret := none) hy hw ?_
  intro p e s m args below meth c s₁ B hml hv
  obtain ⟨rfl, hz, hP, hK⟩ := hv
  rw [lg_entry_eq]
  have hin : meth.name = "<init>" := hi ▸ (name_of_methodNamed B.named B.method).1
  exact body p e s m _ below meth c ⟨B.exec, B.bytes, hml, findClass_of_methodNamed B.named, atoms_spec (ws := ws) B.pre⟩ B.returns B.notSynchronized hin hK _ _ _ (lv_entry [Value.ref b] hn) hz hP va_S.rf
section CR
variable {p : Program} {l : Launch} {e : Env} {R : Room} {s : State} {m : MethodId} {args : Array Value} {below : List Frame} {meth : Method} {c : Code} {H : Heap} {locs : List Loc} {cells slots : Nat} {Q : State → Prop}
variable {cc : ByteArray} {pc : Nat} {ls : Array Slot} {rest : List Value} {D : va_G} {b k : Nat} {es : List va_E} {H0 : Heap} {own : String} {Ts : List Cond} {nL : Nat}
theorem n_obj (F : CallFix p m c cc nL s args Ts own) {idx a : Nat} (h1 : Cond.methodLink own idx Lib.objectInit ∈ Ts) (h2 : Cond.instanceMethod Lib.objectInit ∈ Ts) (h3 : Cond.code Lib.objectInit ⟨#[0xb1]⟩ 1 none ∈ Ts) (hsz : ls.size = nL) (hd : decode cc pc = .ok (.invokespecial idx, 3)) (hf : 1 ≤ R.frames) (hl : (rest.map fun v => v.category).sum + 12 ≤ R.locals)
    (kk : W p l e R s m args below meth c H locs cells slots Q (F0 m (pc + 3) ls rest)) : W p l e R s m args below meth c H locs cells slots Q (F0 m pc ls (.ref a :: rest)) :=
  W.objInit F.1 F.2.1 F.2.2.2.1 (F.2.2.2.2 _ h1) (F.2.2.2.2 _ h2) (F.2.2.2.2 _ h3) rfl (by rw [F.2.2.1]; exact hsz) rfl hd hf (by show 2 * 0 + _ + 12 ≤ _; omega) kk
theorem n_push {H1 : Heap} {e1 : va_E} (hz : H.size = b + k) (hk : es.length = k) (hP : va_P D vwCl (sq b 0 es) H) (he : va_at D vwCl (b + k, e1) H1) (ho : ∀ q, q < b + k → H1[q]? = H[q]?) : va_P D vwCl (sq b 0 (es ++ [e1])) H1 := by
  rw [sq_app]
  refine va_P.app (hP.kept fun j q hq => ho q.1 ?_) ?_
  · have h := (sq_inv b es 0 j q hq).2
    have hl := (List.getElem?_eq_some_iff.mp (sq_inv b es 0 j q hq).1).1
    omega
  · intro j q hq
    have h1 := sq_inv b [e1] (0 + es.length) j q hq
    have hj : j < 1 := (List.getElem?_eq_some_iff.mp h1.1).1
    have hj0 : j = 0 := by omega
    subst hj0
    obtain ⟨h2, h3⟩ := h1
    cases q with
    | mk q1 q2 =>
      simp only [List.getElem?_cons_zero, Option.some.injEq] at h2
      subst h2
      have : q1 = b + k := by
        have h4 : q1 = b + (0 + es.length + 0) := h3
        omega
      subst this
      exact he
theorem n_arr (F : CallFix p m c cc nL s args Ts own) (hK : KC D s) (t0 : Nat) {atype : ArrayType} {ty : FieldType} {cA : ClassId} (hty : newarray.typeOf atype = ty) (ht : (tyX D)[t0]? = some (cA, ty)) (hno : ∀ C, ty ≠ .object C) (hw : Cond.arrayClass ty ∈ Ts) (hz : H.size = b + k) (hk : es.length = k) (hP : va_P D vwCl (sq b 0 es) H) (hS : va_S (bge b) H0 H locs) {n : Int32} {N : Nat} (hdef : defaultValue ty = .int 0) (hn : ¬ n < 0) (hN : n.toNatClampNeg = N) (hbytes : N * componentBytes ty ≤ 536870912) (hcells : cells + 1 ≤ R.cells) (hslots : slots + N ≤ R.slots) (hdg : decode cc pc = .ok (.newarray atype, 2))
    (kk : ∀ (H1 : Heap), H1.size = b + (k + 1) → va_P D vwCl (sq b 0 (es ++ [.inl (cA, (N, .inl (fun _ => 0)))])) H1 → va_S (bge b) H0 H1 locs → W p l e R s m args below meth c H1 locs (cells + 1) (slots + N) Q (F0 m (pc + 2) ls (.ref (b + k) :: rest))) : W p l e R s m args below meth c H locs cells slots Q (F0 m pc ls (.int n :: rest)) := by
  subst hty
  refine va_newaK F.1 F.2.1 (F.2.2.2.2 _ hw) rfl hdg rfl hn hN hbytes hcells hslots hz fun H1 cB e1 z1 o1 _ hNm => ?_
  have hcA : cB = cA := by
    have h := (hK.1.2 t0 _ ht).2
    have h2 : s.vm.findClass ("[" ++ (newarray.typeOf atype).toString) = some cA := by
      unfold va_RA at h
      split at h
      · rename_i C hC
        exact absurd hC (hno C)
      · exact h
    exact Option.some.inj (hNm.symm.trans h2)
  subst hcA
  refine kk H1 (by rw [z1, ← Nat.add_assoc]) (n_push hz hk hP ?_ o1) ⟨Nat.le_trans hS.1 (by omega), fun q h1 h2 => (o1 q (by have : ¬ b ≤ q := h2; omega)).trans (hS.2.1 q h1 h2), hS.2.2⟩
  show H1[b + k]? = some (vp_cell _ _)
  rw [e1, vp_cell_i, hdef]
theorem n_arq (F : CallFix p m c cc nL s args Ts own) (hK : KC D s) (t0 : Nat) {C : String} {index : Nat} {cA : ClassId} (ht : (tyX D)[t0]? = some (cA, .object C)) (hw : Cond.classLink own index C ∈ Ts) (hao : va_AO C s) (hz : H.size = b + k) (hk : es.length = k) (hP : va_P D vwCl (sq b 0 es) H) (hS : va_S (bge b) H0 H locs) {n : Int32} {N : Nat} (hn : ¬ n < 0) (hN : n.toNatClampNeg = N) (hbytes : N * 4 ≤ 536870912) (hcells : cells + 1 ≤ R.cells) (hslots : slots + N ≤ R.slots) (hdg : decode cc pc = .ok (.anewarray index, 3))
    (kk : ∀ (H1 : Heap), H1.size = b + (k + 1) → va_P D vwCl (sq b 0 (es ++ [.inl (cA, (N, .inr (.inr (.inr (.inr (fun _ => none))))))])) H1 → va_S (bge b) H0 H1 locs → W p l e R s m args below meth c H1 locs (cells + 1) (slots + N) Q (F0 m (pc + 3) ls (.ref (b + k) :: rest))) : W p l e R s m args below meth c H locs cells slots Q (F0 m pc ls (.int n :: rest)) := by
  subst hN
  refine W.anew F.1 F.2.1 F.2.2.2.1 (F.2.2.2.2 _ hw) (va_AO.use hao) rfl hdg rfl hn hbytes hcells hslots fun cB kA comp f1 f2 f3 f4 => ?_
  have hcA : cB = cA := by
    obtain ⟨kA2, comp2, g1, g2, g3, g4⟩ := (hK.1.2 t0 _ ht).2
    exact Option.some.inj (f1.symm.trans g4)
  subst hcA
  generalize hH1 : H.push ({ cls := cB, slots := Array.replicate n.toNatClampNeg .null, vm := .none } : Cell) = H1
  have z1 : H1.size = H.size + 1 := by rw [← hH1, Array.size_push]
  have e1 : H1[H.size]? = some (arrV cB n.toNatClampNeg (fun _ => .null)) := by rw [← hH1, Array.getElem?_push_size, ← arrV_new]
  have o1 : ∀ q, q < b + k → H1[q]? = H[q]? := by
    intro q hq
    rw [← hH1, Array.getElem?_push, if_neg (by omega)]
  rw [hz] at z1 e1 ⊢
  refine kk H1 (by rw [z1, ← Nat.add_assoc]) (n_push hz hk hP ?_ o1) ⟨Nat.le_trans hS.1 (by omega), fun q h1 h2 => (o1 q (by have : ¬ b ≤ q := h2; omega)).trans (hS.2.1 q h1 h2), hS.2.2⟩
  show H1[b + k]? = some (vp_cell _ _)
  rw [e1]
  rfl
theorem n_new (F : CallFix p m c cc nL s args Ts own) (hK : KC D s) {C : String} {T : u_T} {N ci index : Nat} (hin : ∀ w ∈ u_ws C T N, w ∈ Ts) (ty : Nat → FieldType) (hty : ∀ k, k < N → parseFieldDescriptor (T k).2.2.1 = some (ty k)) (h1 : Cond.classLink own index C ∈ Ts) (h2 : Cond.instantiable C N ∈ Ts) (h3 : Cond.initialized C ∈ Ts) (hc : vwCl[ci]? = some (C, T, N)) (hz : H.size = b + k) (hk : es.length = k) (hP : va_P D vwCl (sq b 0 es) H) (hS : va_S (bge b) H0 H locs) {fs : List Value} (hfs : ∀ j, j < N → defaultValue (ty j) = vp_V fs j) (hcells : cells + 1 ≤ R.cells) (hslots : slots + N ≤ R.slots) (hdg : decode cc pc = .ok (.new index, 3))
    (kk : ∀ (H1 : Heap), H1.size = b + (k + 1) → va_P D vwCl (sq b 0 (es ++ [.inr (ci, fs)])) H1 → va_S (bge b) H0 H1 locs → W p l e R s m args below meth c H1 locs (cells + 1) (slots + N) Q (F0 m (pc + 3) ls (.ref (b + k) :: rest))) : W p l e R s m args below meth c H locs cells slots Q (F0 m pc ls rest) := by
  have hKn := hK.1.1 ci _ hc
  refine W.newcK F.1 F.2.1 F.2.2.2.1 (F.2.2.2.2 _ h1) (F.2.2.2.2 _ h2) (F.2.2.2.2 _ h3) rfl hdg hcells hslots hKn.2.1 hz fun H1 kC hkC e1 z1 o1 => ?_
  refine kk H1 (by rw [z1, ← Nat.add_assoc]) (n_push hz hk hP ?_ o1) ⟨Nat.le_trans hS.1 (by omega), fun q h1 h2 => (o1 q (by have : ¬ b ≤ q := h2; omega)).trans (hS.2.1 q h1 h2), hS.2.2⟩
  exact ⟨_, hc, (u_born ty F.2.2.2.2 hin hKn hkC e1 hty).to hfs⟩
theorem n_putF (F : CallFix p m c cc nL s args Ts own) (hinit : meth.name = "<init>") (hK : KC D s) (hz : H.size = b + k) (hP : va_P D vwCl (sq b 0 es) H) (hS : va_S (bge b) H0 H locs) (q0 : Nat) {fs : List Value} {ref C : String} {T : u_T} {N ci index : Nat} (he : es[q0]? = some (.inr (ci, fs))) (hin : ∀ w ∈ u_ws C T N, w ∈ Ts) (ty0 : Nat → FieldType) (hty : ∀ k, k < N → parseFieldDescriptor (T k).2.2.1 = some (ty0 k)) (hnm : ∀ a, a < N → ∀ b, b < N → a ≠ b → (T a).2.1 ≠ (T b).2.1) (hc : vwCl[ci]? = some (C, T, N)) (j : Nat) (hj : j < N) (hlink : Cond.fieldLink own index ref (T j).2.1 (T j).2.2.1 ∈ Ts) (hsame : ref = (T j).1) (hfin : (T j).2.2.2 = true) (hdecl : (T j).1 = own) {ty : FieldType} {v : Value} (hd : parseFieldDescriptor (T j).2.2.1 = some ty) (hn : narrow ty v = v) (hfit : fits ty v = true) (hl : j < fs.length) {es' : List va_E} (hes : es.set q0 (.inr (ci, fs.set j v)) = es')
    (hdg : decode cc pc = .ok (.putfield index, 3)) (kk : ∀ (H1 : Heap) (locs1 : List Loc), H1.size = b + k → va_P D vwCl (sq b 0 es') H1 → va_S (bge b) H0 H1 locs1 → W p l e R s m args below meth c H1 locs1 cells slots Q (F0 m (pc + 3) ls rest)) : W p l e R s m args below meth c H locs cells slots Q (F0 m pc ls (v :: .ref (b + q0) :: rest)) := by
  subst hes
  have he2 := sq_get b es 0 q0 _ he
  have hap := va_apart (own := own) F.2.2.2.2 hin ty0 hty hnm hK.1 hc
  have he3 : (sq b 0 es)[q0]? = some (b + q0, .inr (ci, fs)) := by rw [he2, Nat.zero_add]
  obtain ⟨r, h1, cell, q1, q2, q3, q4⟩ := hP q0 _ he3
  have hr : r = (C, T, N) := Option.some.inj (h1.symm.trans hc)
  subst hr
  obtain ⟨hSl, hfc, kC, hkC, hkind⟩ := hK.1.1 ci _ hc
  obtain ⟨cf, kf, fi, f, hi, hsl⟩ := hSl j hj
  have hlay := F.2.2.2.2 _ (hin _ (u_in_lay hj))
  unfold u_lay at hlay
  rw [if_pos hfin] at hlay
  have hst := (u_facts hfc hkC (u_lays F.2.2.2.2 hin hj) hi).1
  have hcf : m.cls = cf := by
    obtain ⟨_, _, c', _, _, _, -, -, hf', -, -, -, hown2, -⟩ := Cond.laysFinal_spec hlay
    have e1 : c' = cf := by have := hi.symm.trans hf'; simp at this; exact this.1.symm
    rw [hdecl] at hown2
    rw [← e1]; exact Option.some.inj (F.2.2.2.1.symm.trans hown2)
  have h6 := u_fits hfc hkC hkind (Or.inr hlay) hi hd hn hfit
  refine W.putFinK F.1 F.2.1 F.2.2.2.1 (F.2.2.2.2 _ hlink) (by rw [hsame]; exact hi) hst hcf hinit (by rw [q2]; exact h6) q1 q3 (by rw [hsl]; exact k2_hasslot (q4 j hj)) rfl rfl hdg fun H' e1 e2 e3 => ?_
  rw [hsl] at e1 ⊢
  refine kk H' _ (by rw [e2]; exact hz) ?_ (hS.put e2 e3 (Nat.le_add_right b q0))
  have h9 := hP.set (sq_D b es) he3 (e := .inr (ci, fs.set j v)) ⟨_, hc, t_OB.to (V := updV (vp_V fs) j v) ⟨_, e1, q2, q3, t_set q4 hap hj v⟩ (fun i _ => vp_updV_set hl v i)⟩ e3
  have e9 := sq_set b es 0 q0 (.inr (ci, fs.set j v))
  rw [Nat.zero_add] at e9
  rw [e9] at h9
  exact h9
theorem n_getR (F : CallFix p m c cc nL s args Ts own) (hK : KC D s) (hP : va_P D vwCl (sq b 0 es) H) (q0 : Nat) {fs : List Value} {ref C : String} {T : u_T} {N ci index : Nat} (he : es[q0]? = some (.inr (ci, fs))) (hin : ∀ w ∈ u_ws C T N, w ∈ Ts) (hc : vwCl[ci]? = some (C, T, N)) (j : Nat) (hj : j < N) (hlink : Cond.fieldLink own index ref (T j).2.1 (T j).2.2.1 ∈ Ts) (hsame : ref = (T j).1) {v : Value} (hv : fs[j]? = some v)
    (hdg : decode cc pc = .ok (.getfield index, 3)) (kk : W p l e R s m args below meth c H locs cells slots Q (F0 m (pc + 3) ls (v :: rest))) : W p l e R s m args below meth c H locs cells slots Q (F0 m pc ls (.ref (b + q0) :: rest)) :=
  va_get F.1 F.2.1 F.2.2.2.2 hin F.2.2.2.1 hK.1 hP q0 (by rw [sq_get b es 0 q0 _ he, Nat.zero_add]) hc j hj (F.2.2.2.2 _ hlink) (fun z hz => by rw [hsame]; exact hz) hv hdg kk
theorem n_iast (F : CallFix p m c cc nL s args Ts own) (hK : KC D s) (hz : H.size = b + k) (hP : va_P D vwCl (sq b 0 es) H) (hS : va_S (bge b) H0 H locs) (q0 : Nat) {n : Nat} {f : Nat → Int32} (he : es[q0]? = some (.inl (D.1 6, (n, .inl f)))) {i v : Int32} (hin : ¬ oob i n) {es' : List va_E} (hes : es.set q0 (.inl (D.1 6, (n, .inl (upd f i.toNatClampNeg v)))) = es')
    (hdg : decode cc pc = .ok (.iastore, 1)) (kk : ∀ (H1 : Heap) (locs1 : List Loc), H1.size = b + k → va_P D vwCl (sq b 0 es') H1 → va_S (bge b) H0 H1 locs1 → W p l e R s m args below meth c H1 locs1 cells slots Q (F0 m (pc + 1) ls rest)) : W p l e R s m args below meth c H locs cells slots Q (F0 m pc ls (.int v :: .int i :: .ref (b + q0) :: rest)) := by
  subst hes
  have he3 : (sq b 0 es)[q0]? = some (b + q0, .inl (D.1 6, (n, .inl f))) := by rw [sq_get b es 0 q0 _ he, Nat.zero_add]
  refine W.iast F.1 F.2.1 (hP q0 _ he3) ((hK.1.2 0 _ rfl).1 n (fun j => .int (f j))) (fun q => by cases q) (by show ¬ (i < 0 ∨ (arrV _ _ _).slots.size ≤ _); rw [arrV_size]; exact hin) rfl rfl hdg fun H1 e1 e2 e3 => ?_
  refine kk H1 _ (by rw [e2]; exact hz) ?_ (hS.put e2 e3 (Nat.le_add_right b q0))
  have h9 := hP.set (sq_D b es) he3 (e := .inl (D.1 6, (n, .inl (upd f i.toNatClampNeg v)))) (H1 := H1) (by
    show H1[b + q0]? = some (vp_cell _ _)
    rw [e1, vp_cell_i, vp_cell_i, arrV_store]
    congr 2
    funext q
    by_cases hq : q = i.toNatClampNeg
    · subst hq
      simp [updV, upd]
    · simp [updV, upd, hq]) e3
  have e9 := sq_set b es 0 q0 (.inl (D.1 6, (n, .inl (upd f i.toNatClampNeg v))))
  rw [Nat.zero_add] at e9
  rw [e9] at h9
  exact h9
theorem n_aast (F : CallFix p m c cc nL s args Ts own) (hK : KC D s) (hz : H.size = b + k) (hP : va_P D vwCl (sq b 0 es) H) (hS : va_S (bge b) H0 H locs) (q0 qk t0 ci : Nat) {n : Nat} {cA : ClassId} {r : vw_C} {vs : List Value} {f : Nat → Option Nat} (ht : (tyX D)[t0]? = some (cA, .object r.1)) (he : es[q0]? = some (.inl (cA, (n, .inr (.inr (.inr (.inr f))))))) (hv : es[qk]? = some (.inr (ci, vs))) (hc : vwCl[ci]? = some r) {i : Int32} (hin : ¬ oob i n) {es' : List va_E} (hes : es.set q0 (.inl (cA, (n, .inr (.inr (.inr (.inr (va_up f i.toNatClampNeg (some (b + qk))))))))) = es')
    (hdg : decode cc pc = .ok (.aastore, 1)) (kk : ∀ (H1 : Heap) (locs1 : List Loc), H1.size = b + k → va_P D vwCl (sq b 0 es') H1 → va_S (bge b) H0 H1 locs1 → W p l e R s m args below meth c H1 locs1 cells slots Q (F0 m (pc + 1) ls rest)) : W p l e R s m args below meth c H locs cells slots Q (F0 m pc ls (.ref (b + qk) :: .int i :: .ref (b + q0) :: rest)) := by
  subst hes
  have hlt : i.toNatClampNeg < n := oob_lt hin
  have h0 : ¬ i < 0 := fun q => hin (Or.inl q)
  have he3 : (sq b 0 es)[q0]? = some (b + q0, .inl (cA, (n, .inr (.inr (.inr (.inr f)))))) := by rw [sq_get b es 0 q0 _ he, Nat.zero_add]
  have hv3 : (sq b 0 es)[qk]? = some (b + qk, .inr (ci, vs)) := by rw [sq_get b es 0 qk _ hv, Nat.zero_add]
  obtain ⟨r', hr', cellV, g1, g2, g3, -⟩ := hP qk _ hv3
  have hcls := (hK.1.1 ci r hc).2
  obtain ⟨kA, comp, k1, k2, k3, -⟩ := (hK.1.2 t0 _ ht).2
  have hcomp : comp = D.1 ci := Option.some.inj (k3.symm.trans hcls.1)
  subst hcomp
  obtain ⟨kC, hkC, -⟩ := hcls.2
  refine W.aast F.1 F.2.1 (hP q0 _ he3) (fun q h => by cases h) (fun h => by cases h) k1 k2 rfl hkC ⟨h0, by show _ < (arrV _ _ _).slots.size; rw [arrV_size]; exact hlt⟩ g1 (fun q h => by rw [g3] at h; cases h) (by rw [g2]; exact hkC) (by rw [g2]; exact va_assign hcls) rfl rfl hdg fun H1 e1 e2 e3 => ?_
  refine kk H1 _ (by rw [e2]; exact hz) ?_ (hS.put e2 e3 (Nat.le_add_right b q0))
  have h9 := hP.set (sq_D b es) he3 (e := .inl (cA, (n, .inr (.inr (.inr (.inr (va_up f i.toNatClampNeg (some (b + qk))))))))) (H1 := H1) (by
    show H1[b + q0]? = some (vp_cell _ _)
    rw [e1, vp_cell_q, vp_cell_q, arrV_store]
    congr 2
    funext q
    by_cases hq : q = i.toNatClampNeg
    · subst hq
      simp [updV, va_up, va_rf]
    · simp [updV, va_up, hq]) e3
  have e9 := sq_set b es 0 q0 (.inl (cA, (n, .inr (.inr (.inr (.inr (va_up f i.toNatClampNeg (some (b + qk)))))))))
  rw [Nat.zero_add] at e9
  rw [e9] at h9
  exact h9
theorem n_ret {as : Array Value} {n mc ms : Nat} (F : CallFix p m c cc nL s as Ts own) (hr : meth.sig.returnType = none) (hlk : meth.locks = false) (hz : H.size = b + n) (hP : va_P D vwCl (sq b 0 es) H) (hS : va_S (bge b) s.heap H locs) (hc : cells ≤ mc) (hs : slots ≤ ms) (hdg : decode cc pc = .ok (.return_, 1)) :
    W p l e R s m as below meth c H locs cells slots (MQ below (QC D b n es) as s mc ms (bge b)) (F0 m pc ls []) :=
  W.widen hc hs (W.vret F.1 F.2.1 hr (fun t ht hW => ⟨rfl, by rw [ht]; exact hz, by rw [ht]; exact hP, hS.F ht⟩) hS.2.2 hdg hlk)
/-- a constructor is called over the last cell -/
theorem n_run {st0 : List Value} {mc ms n k1 : Nat} {pre es1 : List va_E} {e0 : va_E} {a : Array Value} (hr : va_Run p l e R s m args below meth c H locs cells slots mc ms (F0 m pc ls st0) rest (QC D (b + k1) n es1 a) (bge (b + k1))) (hz : H.size = b + (k1 + 1)) (hk : pre.length = k1) (hP : va_P D vwCl (sq b 0 (pre ++ [e0])) H) (hS : va_S (bge b) H0 H locs)
    (kk : ∀ (H1 : Heap) (locs1 : List Loc), H1.size = b + (k1 + n) → va_P D vwCl (sq b 0 (pre ++ es1)) H1 → va_S (bge b) H0 H1 locs1 → W p l e R s m args below meth c H1 locs1 (cells + mc) (slots + ms) Q (F0 m (pc + 3) ls rest)) : W p l e R s m args below meth c H locs cells slots Q (F0 m pc ls st0) := by
  intro T hT X
  obtain ⟨v2, st₀, t, T', L, h0, X', hL, e1, e2, ⟨hv, hz1, hb, hF⟩, st⟩ := hr T hT X
  cases hv
  obtain ⟨j1, j2, j3⟩ := vx_keep (A0 := bge b) (A1 := bge (b + k1)) h0 e1 hS (fun q _ h => Nat.le_trans (Nat.le_add_right b k1) h) (fun q h => Nat.le_trans (Nat.le_add_right b k1) h) hL hF
  have hP2 : va_P D vwCl (sq b 0 (pre ++ es1)) T'.heap := by
    rw [sq_app, e1]
    refine va_P.app ?_ ?_
    · have h5 : va_P D vwCl (sq b 0 pre) H := by
        rw [sq_app] at hP
        exact fun i q hq => hP i q (by rw [List.getElem?_append_left (List.getElem?_eq_some_iff.mp hq).1]; exact hq)
      refine h5.kept fun j q hq => ?_
      have h6 := sq_inv b pre 0 j q hq
      have h7 := (List.getElem?_eq_some_iff.mp h6.1).1
      rw [← e1]
      exact j2 q.1 (by omega) (fun z => by have : b + k1 ≤ q.1 := z; omega)
    · have h8 := hb
      rw [sq_shift] at h8
      rw [Nat.zero_add, hk]
      exact h8
  obtain ⟨t2, a1, b1⟩ := kk T'.heap (locs ++ L) (by rw [e1, hz1, Nat.add_assoc]) hP2 j3 T' rfl X'
  exact ⟨t2, st t2 a1, b1⟩
theorem n_blind {as : List Value} {n : Nat} {es0 : List va_E} : FrameBlind (va_Pc as (fun U => U.heap.size = n ∧ va_P D vwCl (sq b 0 es0) U.heap ∧ KC D U)) := fun a U g mk q => by
  obtain ⟨q0, q1, qP, qK⟩ := q
  exact ⟨q0, q1, qP, KC.warm (U := U.calling g mk a) (State.WarmedH.refl U) qK⟩
theorem n_callI (F : CallFix p m c cc nL s args Ts own) (hK : KC D s) {pre es1 : List va_E} {e0 : va_E} {k1 n : Nat} (hz : H.size = b + (k1 + 1)) (hk : pre.length = k1) (hP : va_P D vwCl (sq b 0 (pre ++ [e0])) H) (hS : va_S (bge b) H0 H locs)
    {y : MethodName} {ws : List Cond} {rm : Room} {mc ms index maxL : Nat} {bytes : ByteArray} (hM : NC l y ws rm mc ms D (b + k1) n e0 es1) (cw : CallB R s args own index y bytes maxL none ws rm mc ms 0 ∧ y.name = "<init>" ∧ (Cond.instanceMethod y).before args s = true) (hsz : ls.size = nL) (hW : (rest.map fun v => v.category).sum ≤ 8) (hdg : decode cc pc = .ok (.invokespecial index, 3)) (hf : cells + mc ≤ R.cells ∧ slots + ms ≤ R.slots)
    (kk : ∀ (H1 : Heap) (locs1 : List Loc), H1.size = b + (k1 + n) → va_P D vwCl (sq b 0 (pre ++ es1)) H1 → va_S (bge b) H0 H1 locs1 → W p l e R s m args below meth c H1 locs1 (cells + mc) (slots + ms) Q (F0 m (pc + 3) ls rest)) : W p l e R s m args below meth c H locs cells slots Q (F0 m pc ls (.ref (b + k1) :: rest)) := by
  have hP1 : va_P D vwCl (sq (b + k1) 0 [e0]) H := by
    rw [sq_shift]
    intro i q hq
    rw [sq_app, hk] at hP
    exact hP (k1 + i) q (by rw [List.getElem?_append_right (by rw [sq_len]; omega), sq_len, hk, show k1 + i - k1 = i by omega, Nat.zero_add]; exact hq)
  exact n_run (va_runI (As := []) (g := F0 m pc ls (.ref (b + k1) :: rest)) F hM cw ⟨n_blind, fun U hU hW => ⟨rfl, by rw [hU]; exact hz, by rw [hU]; exact hP1, KC.warm hW hK⟩⟩ rfl rfl hsz rfl (by show 2 * 0 + _ ≤ 8; omega) hdg hf) hz hk hP hS kk
theorem n_callIN (F : CallFix p m c cc nL s args Ts own) (hK : KC D s) {pre es1 : List va_E} {e0 : va_E} {k1 n : Nat} (hz : H.size = b + (k1 + 1)) (hk : pre.length = k1) (hP : va_P D vwCl (sq b 0 (pre ++ [e0])) H) (hS : va_S (bge b) H0 H locs)
    {y : MethodName} {ws : List Cond} {rm : Room} {mc ms index maxL : Nat} {bytes : ByteArray} {host : String} (hM : NC l y ws rm mc ms D (b + k1) n e0 es1) (cw : va_CN R s args own index y host bytes maxL none ws rm mc ms 0 ∧ y.name = "<init>" ∧ (Cond.instanceMethod y).before args s = true) (hsz : ls.size = nL) (hW : (rest.map fun v => v.category).sum ≤ 8) (hdg : decode cc pc = .ok (.invokespecial index, 3)) (hf : cells + mc ≤ R.cells ∧ slots + ms ≤ R.slots)
    (kk : ∀ (H1 : Heap) (locs1 : List Loc), H1.size = b + (k1 + n) → va_P D vwCl (sq b 0 (pre ++ es1)) H1 → va_S (bge b) H0 H1 locs1 → W p l e R s m args below meth c H1 locs1 (cells + mc) (slots + ms) Q (F0 m (pc + 3) ls rest)) : W p l e R s m args below meth c H locs cells slots Q (F0 m pc ls (.ref (b + k1) :: rest)) := by
  have hP1 : va_P D vwCl (sq (b + k1) 0 [e0]) H := by
    rw [sq_shift]
    intro i q hq
    rw [sq_app, hk] at hP
    exact hP (k1 + i) q (by rw [List.getElem?_append_right (by rw [sq_len]; omega), sq_len, hk, show k1 + i - k1 = i by omega, Nat.zero_add]; exact hq)
  exact n_run (va_runIN (As := []) (g := F0 m pc ls (.ref (b + k1) :: rest)) F hM cw ⟨n_blind, fun U hU hW => ⟨rfl, by rw [hU]; exact hz, by rw [hU]; exact hP1, KC.warm hW hK⟩⟩ rfl rfl hsz rfl (by show 2 * 0 + _ ≤ 8; omega) hdg hf) hz hk hP hS kk
end CR
/-! java.util.Arrays.fill(int[], int) -/
theorem vp_same {cA : ClassId} {n : Nat} {f g : Nat → Int32} (h : ∀ j, j < n → f j = g j) : vp_cell cA (n, .inl f) = vp_cell cA (n, .inl g) := by
  have e : (fun j : Fin n => Value.int (f j.val)) = (fun j : Fin n => Value.int (g j.val)) := funext fun j => by rw [h j.1 j.2]
  exact congrArg (fun F => ({ cls := cA, slots := Array.ofFn F, vm := .none } : Cell)) e
def filld (f : Row) (v : Int32) (k : Nat) : Row := fun j => if j < k then v else f j
theorem fill_0 (f : Row) (v : Int32) : filld f v 0 = f := by
  funext j
  simp [filld]
theorem fill_s (f : Row) (v : Int32) (k : Nat) : upd (filld f v k) k v = filld f v (k + 1) := by
  funext j
  by_cases h : j = k
  · subst h
    rw [pk_us]
    simp [filld]
  · rw [pk_un h]
    unfold filld
    by_cases h2 : j < k
    · rw [if_pos h2, if_pos (by omega)]
    · rw [if_neg h2, if_neg (by omega)]
def rmJ7_fill : Room := { frames := 0, cells := 0, slots := 0, locals := 0 }
def QF (D : va_G) (a n : Nat) (v : Int32) : Array Value → State → Outcome → State → Prop := fun _ st o t => o = .returned none ∧ t.heap.size = st.heap.size ∧ va_P D vwCl [(a, .inl (D.1 6, (n, .inl (fun _ => v))))] t.heap ∧ va_F (fun q => q = a) st t
set_option maxHeartbeats 8000000 in
set_option maxRecDepth 100000 in
theorem c_fill {l : Launch} {D : va_G} {a n : Nat} (hn : n < 1000000) {f : Row} (v : Int32) : Met l yJ7_fill_53178 wsJ7_fill_53178 rmJ7_fill (va_Pc [.ref a, .int v] (fun U => va_P D vwCl [(a, .inl (D.1 6, (n, .inl f)))] U.heap ∧ va_K D vwCl (tyX D) U)) (QF D a n v) 0 0 (fun q => q = a) := by
  refine Met.ofW (cc := cJ7_fill_53178) (maxL := 4) (ret := none) (by decide +kernel) rfl ?_
  intro p e s m args below meth c s₁ B hml hv
  obtain ⟨rfl, hP0, hK⟩ := hv
  have hx := B.exec
  have hb := B.bytes
  have hr := B.returns
  have hlocks := B.notSynchronized
  rw [lg_entry_eq]
  have hl := lv_entry ([.ref a, .int v]) (n := 4) (Nat.le_of_ble_eq_true rfl)
  generalize (lg_sl ([.ref a, .int v]) ++ List.replicate (4 - (lg_sl ([.ref a, .int v])).length) Slot.unset).toArray = ls at hl ⊢
  have hl : lv_has ls 4 [(0, .ref a), (1, .int v)] := hl
  have key : ∀ j k (ls : Array Slot) (H : Heap) (locs : List Loc), k + j = n → lv_has ls 4 [(2, .int (nI k)), (3, .int (nI n)), (0, .ref a), (1, .int v)] → H.size = s.heap.size → H[a]? = some (vp_cell (D.1 6) (n, .inl (filld f v k))) → va_S (fun q => q = a) s.heap H locs →
      W p l e (headSpec wsJ7_fill_53178 rmJ7_fill).room s m (([.ref a, .int v] : List Value).toArray) below meth c H locs 0 0 (MQ below (QF D a n v) (([.ref a, .int v] : List Value).toArray) s 0 0 (fun q => q = a)) (F0 m 5 ls []) := by
    intro j
    induction j with
    | zero =>
      intro k ls H locs hk hl hz hc hS
      refine lv_iload_n hx hb dJ7_fill_53178_5 rfl (lv_at hl 0 rfl) ?_
      refine lv_iload_n hx hb dJ7_fill_53178_6 rfl (lv_at hl 1 rfl) ?_
      refine lv_icmp_ge (tgt := 20) hx hb dJ7_fill_53178_7 rfl (fun _ => ?_) (fun h => absurd ((le_nI (by omega) (by omega)).mpr (by omega)) h)
      refine W.vret hx hb hr (fun t ht hW => ⟨rfl, by rw [ht]; exact hz, ?_, hS.F ht⟩) hS.2.2 dJ7_fill_53178_20 hlocks
      intro i q hq
      have hi : i < 1 := (List.getElem?_eq_some_iff.mp hq).1
      have hi0 : i = 0 := by omega
      subst hi0
      cases hq
      show t.heap[a]? = some (vp_cell _ _)
      rw [ht, hc]
      exact congrArg some (vp_same fun j hj => by unfold filld; rw [if_pos (by omega)])
    | succ j ih =>
      intro k ls H locs hk hl hz hc hS
      refine lv_iload_n hx hb dJ7_fill_53178_5 rfl (lv_at hl 0 rfl) ?_
      refine lv_iload_n hx hb dJ7_fill_53178_6 rfl (lv_at hl 1 rfl) ?_
      refine lv_icmp_ge (tgt := 20) hx hb dJ7_fill_53178_7 rfl (fun h => absurd ((le_nI (by omega) (by omega)).mp h) (by omega)) (fun _ => ?_)
      refine lv_aload_n hx hb dJ7_fill_53178_10 rfl (lv_at hl 2 rfl) ?_
      refine lv_iload_n hx hb dJ7_fill_53178_11 rfl (lv_at hl 0 rfl) ?_
      refine lv_iload_n hx hb dJ7_fill_53178_12 rfl (lv_at hl 3 rfl) ?_
      have hcl : (nI k).toNatClampNeg = k := cl_nI (by omega)
      refine W.iast hx hb hc ((hK.2 0 _ rfl).1 n (fun j => .int (filld f v k j))) (fun q => by cases q) (by show ¬ (_ ∨ (arrV _ _ _).slots.size ≤ _); rw [arrV_size]; exact fun h => absurd ((oob_nI (by omega)).mp h) (by omega)) rfl rfl dJ7_fill_53178_13 fun H1 e1 e2 e3 => ?_
      refine lv_iinc (v := nI (k + 1)) hx hb dJ7_fill_53178_14 hl (k := 0) rfl (nI_1 k) (Nat.le_of_ble_eq_true rfl) rfl (fun ls hl => ?_)
      refine lv_goto (tgt := 5) hx hb dJ7_fill_53178_17 rfl ?_
      refine ih (k + 1) ls H1 _ (by omega) hl (by rw [e2]; exact hz) ?_ (hS.put e2 e3 rfl)
      rw [e1, hcl]
      refine congrArg some ?_
      rw [vp_cell_i, vp_cell_i, arrV_store, ← fill_s f v k]
      congr 1
      funext q
      by_cases hq : q = k
      · subst hq
        simp [updV, upd]
      · simp [updV, upd, hq]
  have hc0 : s.heap[a]? = some (vp_cell (D.1 6) (n, .inl f)) := hP0 0 _ rfl
  refine lv_iconst (v := nI 0) hx hb dJ7_fill_53178_0 rfl ?_
  refine lv_istore_n hx hb dJ7_fill_53178_1 rfl hl (Nat.le_of_ble_eq_true rfl) rfl (fun ls hl => ?_)
  refine lv_aload_n hx hb dJ7_fill_53178_2 rfl (lv_at hl 1 rfl) ?_
  refine W.alen (n := nI n) hx hb hc0 ((hK.2 0 _ rfl).1 n (fun j => .int (f j))) (by show (arrV _ _ _).slots.size.toInt32 = _; rw [arrV_size]; rfl) rfl rfl dJ7_fill_53178_3 ?_
  refine lv_istore_n hx hb dJ7_fill_53178_4 rfl hl (Nat.le_of_ble_eq_true rfl) rfl (fun ls hl => ?_)
  exact key n 0 ls s.heap [] (by omega) (lv_sub hl [1, 0, 2, 3] rfl) rfl (by rw [fill_0]; exact hc0) va_S.rf
section CF
variable {p : Program} {l : Launch} {e : Env} {R : Room} {s : State} {m : MethodId} {args : Array Value} {below : List Frame} {meth : Method} {c : Code} {H : Heap} {locs : List Loc} {cells slots : Nat} {Q : State → Prop}
variable {cc : ByteArray} {pc : Nat} {ls : Array Slot} {rest : List Value} {D : va_G} {b k : Nat} {es : List va_E} {H0 : Heap} {own : String} {Ts : List Cond} {nL : Nat}
theorem n_fill (F : CallFix p m c cc nL s args Ts own) (hK : KC D s) (hz : H.size = b + k) (hP : va_P D vwCl (sq b 0 es) H) (hS : va_S (bge b) H0 H locs) (q0 : Nat) {n : Nat} {f : Row} (hn : n < 1000000) (he : es[q0]? = some (.inl (D.1 6, (n, .inl f)))) {v : Int32} {index : Nat} (cw : CallB R s args own index yJ7_fill_53178 cJ7_fill_53178 4 none wsJ7_fill_53178 rmJ7_fill 0 0 2 ∧ (Cond.static yJ7_fill_53178).before args s = true) (hsz : ls.size = nL) (hW : (rest.map fun v => v.category).sum ≤ 8) (hdg : decode cc pc = .ok (.invokestatic index, 3)) (hf : cells ≤ R.cells ∧ slots ≤ R.slots) {es' : List va_E} (hes : es.set q0 (.inl (D.1 6, (n, .inl (fun _ => v)))) = es')
    (kk : ∀ (H1 : Heap) (locs1 : List Loc), H1.size = b + k → va_P D vwCl (sq b 0 es') H1 → va_S (bge b) H0 H1 locs1 → W p l e R s m args below meth c H1 locs1 cells slots Q (F0 m (pc + 3) ls rest)) : W p l e R s m args below meth c H locs cells slots Q (F0 m pc ls (.int v :: .ref (b + q0) :: rest)) := by
  subst hes
  have he3 : (sq b 0 es)[q0]? = some (b + q0, .inl (D.1 6, (n, .inl f))) := by rw [sq_get b es 0 q0 _ he, Nat.zero_add]
  have hP1 : va_P D vwCl [(b + q0, .inl (D.1 6, (n, .inl f)))] H := by
    intro i q hq
    have hi : i < 1 := (List.getElem?_eq_some_iff.mp hq).1
    have hi0 : i = 0 := by omega
    subst hi0
    cases hq
    exact hP q0 _ he3
  have hr := va_runS (As := [.ref (b + q0), .int v]) (rest := rest) (H := H) (locs := locs) (cells := cells) (slots := slots) (p := p) (l := l) (e := e) (R := R) (below := below) (meth := meth) (g := F0 m pc ls (.int v :: .ref (b + q0) :: rest)) F (c_fill (l := l) (D := D) (a := b + q0) hn (f := f) v) cw ⟨fun a U g mk q => by
      obtain ⟨q0, qP, qK⟩ := q
      exact ⟨q0, qP, va_K.moved (u := U) (U := U.calling g mk a) (Vm.Alike.refl U.vm) qK⟩, fun U hU hW => ⟨rfl, by rw [hU]; exact hP1, va_K.moved hW.alike hK.1⟩⟩ rfl rfl hsz rfl (by show 2 * 0 + _ ≤ 8; omega) hdg hf
  intro T hT X
  obtain ⟨v2, st₀, t, T', L, h0, X', hL, e1, e2, ⟨hv, hz1, hb, hF⟩, st⟩ := hr T hT X
  cases hv
  obtain ⟨j1, j2, j3⟩ := vx_keep (free := fun q => q = b + q0) (A0 := bge b) (A1 := fun q => q = b + q0) h0 e1 hS (fun q _ h => by have h2 : q = b + q0 := h; show b ≤ q; omega) (fun q h => Nat.le_trans (Nat.le_add_right b q0) (Nat.le_of_eq (Eq.symm h))) hL hF
  have h9 := hP.set (sq_D b es) he3 (e := .inl (D.1 6, (n, .inl (fun _ => v)))) (H1 := T'.heap) (by rw [e1]; exact hb 0 _ rfl) (fun q hq => by
    by_cases hl : q < H.size
    · exact j2 q hl hq
    · have s1 : H.size ≤ q := Nat.le_of_not_lt hl
      have s2 : T'.heap.size ≤ q := by rw [e1, hz1, h0]; exact s1
      rw [Array.getElem?_eq_none s1, Array.getElem?_eq_none s2])
  have e9 := sq_set b es 0 q0 (.inl (D.1 6, (n, .inl (fun _ => v))))
  rw [Nat.zero_add] at e9
  rw [e9] at h9
  obtain ⟨t2, a1, b1⟩ := kk T'.heap (locs ++ L) (by rw [e1, hz1, h0]; exact hz) h9 j3 T' rfl X'
  exact ⟨t2, st t2 a1, b1⟩
end CF
