/-! what the class's methods take as given of the tables and of the statics; contracts of the class's methods; rows over the world -/
def exN (k : Nat) : String := match k with
  | 1 => "java/lang/IllegalArgumentException"
  | 2 => "java/lang/IllegalStateException"
  | _ => "java/lang/IndexOutOfBoundsException"
def spN (k : Nat) : String := match k with
  | 0 => "java/lang/Throwable"
  | 1 => "java/lang/RuntimeException"
  | _ => "java/lang/Exception"
theorem nw_decl {y : MethodName} {s U : State} (hW : s.WarmedH U.vm) (hZ : va_Nw (.declares y) s) : va_Nw (.declares y) U := va_tabs rfl (rfl : (s.setVm U.vm).vm = U.vm) (by rw [Cond.declares_setVm hW.alike]; exact hZ)
def lstI : Nat → Int32 := fun j => match j with
  | 1 => 1
  | _ => 0
def mstI : Nat → Int32 := fun j => match j with
  | 0 => 30
  | 1 => 9
  | _ => 50
def lstV : Nat → Value := fun j => .int (lstI j)
def mstV : Nat → Value := fun j => .int (mstI j)
def strs : List (Nat × String) := [(235, "no such site or cell"), (237, "an argument is out of its range"), (239, "not possible now"), (54, "the text is full"), (67, "the text is not a winter"), (251, "no such site"), (244, "no such cell"), (128, "no such layer"), (138, "no such tube"), (256, "no such pipe"), (158, "not so many frozen cells"), (169, "nothing is remembered"), (204, "not a script of so many commands"), (246, "no such save slot"), (230, "nothing is saved there")]
def SG (x : Nat) (U : State) (H : Heap) : Prop :=
  (va_Nw (.fieldLinkNest RX0 128 "FrostTubes" "LEAST_SETTING" "[I" "FrostTubes") U ∧ va_Nw (.fieldLinkNest RX0 131 "FrostTubes" "MOST_SETTING" "[I" "FrostTubes") U) ∧
  (∃ t, va_Z "FrostTubes" "LEAST_SETTING" "[I" (.ref t) (rng x) U H ∧ va_T .int t 3 lstV (rng x) U H) ∧
  (∃ t, va_Z "FrostTubes" "MOST_SETTING" "[I" (.ref t) (rng x) U H ∧ va_T .int t 3 mstV (rng x) U H) ∧
  vx_Zq Bundle.tN "UNASSIGNED_STACK" Bundle.steD (rng x) U H ∧ vx_Zq Bundle.tN "SUPPRESSED_SENTINEL" Bundle.listD (rng x) U H ∧
  (∀ q ∈ strs, ∃ a, vk_R RX4 q.1 q.2 a U) ∧ (∀ k, va_Nw (.castable (exN k) (exN k)) U) ∧ ∀ k, va_Nw (.declares (Bundle.initS (spN k))) U
theorem SG.to {x : Nat} {s U : State} {H H1 : Heap} (h : SG x s H) (hW : s.WarmedH U.vm) (hq : ∀ a : Nat, a < H.size → ¬ rng x a → H1[a]? = H[a]?) : SG x U H1 := by
  obtain ⟨⟨n1, n2⟩, ⟨t1, z1, y1⟩, ⟨t2, z2, y2⟩, u1, u2, hs, hc, hd⟩ := h
  refine ⟨⟨va_Nw.warmF hW n1, va_Nw.warmF hW n2⟩, ⟨t1, va_Z.moved hW.alike (z1.kept hq), va_T.moved hW.alike (y1.kept hq)⟩, ⟨t2, va_Z.moved hW.alike (z2.kept hq), va_T.moved hW.alike (y2.kept hq)⟩, vx_Zq.moved hW.alike (u1.kept hq), vx_Zq.moved hW.alike (u2.kept hq), fun q hq => ?_, fun k => va_Nw.warmC hW (hc k), fun k => nw_decl hW (hd k)⟩
  obtain ⟨a, ha⟩ := hs q hq
  exact ⟨a, vk_R.warm hW ha⟩
def KX (D : va_G) (x : Nat) (μ : Mem) (U : State) : Prop := va_P D vwCl (WL D x μ) U.heap ∧ va_K D vwCl (tyX D) U ∧ SG x U U.heap
theorem KX.blind {as : List Value} {D : va_G} {x : Nat} {μ : Mem} : FrameBlind (va_Pc as (KX D x μ)) := fun a U g mk q => by
  obtain ⟨q0, qP, qK, qS⟩ := q
  exact ⟨q0, qP, va_K.moved (u := U) (U := U.calling g mk a) (Vm.Alike.refl U.vm) qK, SG.to (U := U.calling g mk a) qS (State.WarmedH.refl U) (fun _ _ _ => rfl)⟩
def QX (D : va_G) (x : Nat) (μ : Mem) (v : Option Value) : Array Value → State → Outcome → State → Prop := fun _ st o t => o = .returned v ∧ va_P D vwCl (WL D x μ) t.heap ∧ va_F (rng x) st t
/-- a method of the class that answers: from the memory μ to μ' -/
def CX (l : Launch) (y : MethodName) (ws : List Cond) (rm : Room) (as : List Value) (D : va_G) (x : Nat) (μ : Mem) (v : Option Value) (μ' : Mem) : Prop := Met l y ws rm (va_Pc as (KX D x μ)) (QX D x μ' v) 0 0 (rng x)
def QT (D : va_G) (x : Nat) (μ : Mem) (k : Nat) (v : Option Value) : Array Value → State → Outcome → State → Prop := fun _ st o t => k = 0 ∧ o = .returned v ∧ va_P D vwCl (WL D x μ) t.heap ∧ va_F (rng x) st t
def XT (D : va_G) (x : Nat) (μ : Mem) (k : Nat) : String → State → State → Prop := fun E st t => k ≠ 0 ∧ E = exN k ∧ va_P D vwCl (WL D x μ) t.heap ∧ va_F (rng x) st t
/-- a method of the class that answers (k is 0) or throws (k tells what) -/
def TX (l : Launch) (y : MethodName) (ws : List Cond) (rm : Room) (mc ms : Nat) (as : List Value) (D : va_G) (x : Nat) (μ : Mem) (k : Nat) (v : Option Value) (μ' : Mem) : Prop := vx_Met l y ws rm (va_Pc as (KX D x μ)) (QT D x μ' k v) (XT D x μ' k) mc ms (rng x)
theorem CX.of {l : Launch} {y : MethodName} {ws ws' : List Cond} {rm : Room} {as : List Value} {D : va_G} {x : Nat} {μ μ' : Mem} {v : Option Value} {cc : ByteArray} {maxL : Nat} {ret : Option FieldType}
    (hy : plainName y.cls = true) (hw : ws = Cond.code y cc maxL ret :: ws') (hn : (lg_sl as).length ≤ maxL)
    (body : ∀ p e s m args below meth c, CallFix p m c cc maxL s args ws y.cls → meth.sig.returnType = ret → meth.locks = false → va_K D vwCl (tyX D) s → SG x s s.heap →
      ∀ (ls : Array Slot) (H : Heap) (locs : List Loc), lv_has ls maxL (lv_args 0 as) → va_P D vwCl (WL D x μ) H → va_S (rng x) s.heap H locs →
      W p l e rm s m args below meth c H locs 0 0 (MQ below (QX D x μ' v) args s 0 0 (rng x)) (F0 m 0 ls [])) : CX l y ws rm as D x μ v μ' := by
  refine Met.ofW (cc := cc) (maxL := maxL) (ret := ret) hy hw ?_
  intro p e s m args below meth c s₁ B hml hv
  obtain ⟨rfl, hP, hK, hG⟩ := hv
  rw [lg_entry_eq]
  exact body p e s m as.toArray below meth c ⟨B.exec, B.bytes, hml, findClass_of_methodNamed B.named, atoms_spec (ws := ws) B.pre⟩ B.returns B.notSynchronized hK hG _ _ _ (lv_entry as hn) hP va_S.rf
theorem TX.of {l : Launch} {y : MethodName} {ws ws' : List Cond} {rm : Room} {mc ms : Nat} {as : List Value} {D : va_G} {x : Nat} {μ μ' : Mem} {k : Nat} {v : Option Value} {cc : ByteArray} {maxL : Nat} {ret : Option FieldType}
    (hy : plainName y.cls = true) (hw : ws = Cond.code y cc maxL ret :: ws') (hn : (lg_sl as).length ≤ maxL)
    (body : ∀ p e s m args below meth c, CallFix p m c cc maxL s args ws y.cls → meth.sig.returnType = ret → meth.locks = false → (∀ z ∈ c.exceptionTable.toList, False) → va_K D vwCl (tyX D) s → SG x s s.heap →
      ∀ (ls : Array Slot) (H : Heap) (locs : List Loc), lv_has ls maxL (lv_args 0 as) → va_P D vwCl (WL D x μ) H → va_S (rng x) s.heap H locs →
      W p l e rm s m args below meth c H locs 0 0 (vx_MQ below (QT D x μ' k v) (XT D x μ' k) args s mc ms (rng x)) (F0 m 0 ls [])) : TX l y ws rm mc ms as D x μ k v μ' := by
  refine vx_ofW (cc := cc) (maxL := maxL) (ret := ret) hy hw ?_
  intro p e s m args below meth c s₁ B hml hx hv
  obtain ⟨rfl, hP, hK, hG⟩ := hv
  rw [lg_entry_eq]
  exact body p e s m as.toArray below meth c ⟨B.exec, B.bytes, hml, findClass_of_methodNamed B.named, atoms_spec (ws := ws) B.pre⟩ B.returns B.notSynchronized hx hK hG _ _ _ (lv_entry as hn) hP va_S.rf
theorem ifp {α : Type} {c : Prop} {h : Decidable c} {a b r : α} (hc : c) (e : @ite α c h a b = r) : a = r := by rw [if_pos hc] at e; exact e
theorem ifn {α : Type} {c : Prop} {h : Decidable c} {a b r : α} (hc : ¬ c) (e : @ite α c h a b = r) : b = r := by rw [if_neg hc] at e; exact e
theorem ifg {α : Type} {c : Prop} {h : Decidable c} {b : Option α} {r : α} (e : @ite (Option α) c h none b = some r) : ¬ c ∧ b = some r := by
  by_cases hc : c
  · rw [if_pos hc] at e; cases e
  · rw [if_neg hc] at e; exact ⟨hc, e⟩
theorem ifgp {α : Type} {c : Prop} {h : Decidable c} {b : Option α} {r : α} (e : @ite (Option α) c h b none = some r) : c ∧ b = some r := by
  by_cases hc : c
  · rw [if_pos hc] at e; exact ⟨hc, e⟩
  · rw [if_neg hc] at e; cases e
theorem bnd {α β : Type} {o : Option α} {k : α → Option β} {r : β} (e : o.bind k = some r) : ∃ a, o = some a ∧ k a = some r := by
  cases o with
  | none => cases e
  | some a => exact ⟨a, rfl, e⟩
abbrev oob (i : Int32) (n : Nat) : Prop := i < 0 ∨ n ≤ i.toNatClampNeg
theorem oob_lt {i : Int32} {n : Nat} (h : ¬ oob i n) : i.toNatClampNeg < n := by
  have : ¬ n ≤ i.toNatClampNeg := fun z => h (Or.inr z)
  omega
theorem i32_ne {a b : Int32} (h : ¬ a = b) : a.toInt ≠ b.toInt := fun z => h (Int32.toInt_inj.mp z)
section RX
variable {p : Program} {l : Launch} {e : Env} {R : Room} {s : State} {m : MethodId} {args : Array Value} {below : List Frame} {meth : Method} {c : Code} {H : Heap} {locs : List Loc} {cells slots : Nat} {Q : State → Prop}
variable {cc : ByteArray} {pc : Nat} {ls : Array Slot} {rest : List Value} {D : va_G} {x : Nat} {μ : Mem} {H0 : Heap} {own : String} {Ts : List Cond} {nL : Nat}
/-- a field that is an int -/
theorem x_getI (F : CallFix p m c cc nL s args Ts own) (hK : va_K D vwCl (tyX D) s) (hP : va_P D vwCl (WL D x μ) H) {o : Nat} (ho : o < 349) {q : Nat × Nat × Nat} (hk : kd o = q) {g : Row} (hg : μ (rg q) = g) {ref C : String} {T : u_T} {N ci index : Nat} {fs : Row → List Value}
    (hin : ∀ w ∈ u_ws C T N, w ∈ Ts) (hmk : ∀ f, mk D x q f = .inr (ci, fs f)) (hc : vwCl[ci]? = some (C, T, N)) (k : Nat) (hkN : k < N) (hlink : Cond.fieldLink own index ref (T k).2.1 (T k).2.2.1 ∈ Ts) (hsame : ref = (T k).1) (hfk : ∀ f, (fs f)[k]? = some (.int (f k))) (hkl : k < ln q) {v : Int32} (hv : g (ix q k) = v)
    (hdg : decode cc pc = .ok (.getfield index, 3)) (kk : W p l e R s m args below meth c H locs cells slots Q (F0 m (pc + 3) ls (.int v :: rest))) : W p l e R s m args below meth c H locs cells slots Q (F0 m pc ls (.ref (x + o) :: rest)) :=
  va_get F.1 F.2.1 F.2.2.2.2 hin F.2.2.2.1 hK hP o (fs := fs (vals μ q)) ((WL_at ho hk).trans (by rw [hmk])) hc k hkN (F.2.2.2.2 _ hlink) (fun z hz => by rw [hsame]; exact hz) (v := .int v) (by rw [hfk, vals_at rfl hg hkl, hv]) hdg kk
/-- a field that is a reference: it never changes -/
theorem x_getR (F : CallFix p m c cc nL s args Ts own) (hK : va_K D vwCl (tyX D) s) (hP : va_P D vwCl (WL D x μ) H) {o : Nat} (ho : o < 349) {q : Nat × Nat × Nat} (hk : kd o = q) {ref C : String} {T : u_T} {N ci index : Nat} {fs : Row → List Value}
    (hin : ∀ w ∈ u_ws C T N, w ∈ Ts) (hmk : ∀ f, mk D x q f = .inr (ci, fs f)) (hc : vwCl[ci]? = some (C, T, N)) (k : Nat) (hkN : k < N) (hlink : Cond.fieldLink own index ref (T k).2.1 (T k).2.2.1 ∈ Ts) (hsame : ref = (T k).1) {v : Value} (hfk : ∀ f, (fs f)[k]? = some v)
    (hdg : decode cc pc = .ok (.getfield index, 3)) (kk : W p l e R s m args below meth c H locs cells slots Q (F0 m (pc + 3) ls (v :: rest))) : W p l e R s m args below meth c H locs cells slots Q (F0 m pc ls (.ref (x + o) :: rest)) :=
  va_get F.1 F.2.1 F.2.2.2.2 hin F.2.2.2.1 hK hP o (fs := fs (vals μ q)) ((WL_at ho hk).trans (by rw [hmk])) hc k hkN (F.2.2.2.2 _ hlink) (fun z hz => by rw [hsame]; exact hz) (v := v) (hfk _) hdg kk
theorem x_putI (F : CallFix p m c cc nL s args Ts own) (hK : va_K D vwCl (tyX D) s) {i : Nat} {g : Row} (hP : va_P D vwCl (WL D x (va_up μ i g)) H) (hS : va_S (rng x) H0 H locs) {o : Nat} (ho : o < 349) {q : Nat × Nat × Nat} (hk : kd o = q) (hr : rg q = i) {ref C : String} {T : u_T} {N ci index : Nat} {fs : Row → List Value}
    (hin : ∀ w ∈ u_ws C T N, w ∈ Ts) (ty0 : Nat → FieldType) (hty : ∀ k, k < N → parseFieldDescriptor (T k).2.2.1 = some (ty0 k)) (hnm : ∀ a, a < N → ∀ b, b < N → a ≠ b → (T a).2.1 ≠ (T b).2.1) (hmk : ∀ f, mk D x q f = .inr (ci, fs f)) (hc : vwCl[ci]? = some (C, T, N)) (k : Nat) (hkN : k < N) (hlink : Cond.fieldLink own index ref (T k).2.1 (T k).2.2.1 ∈ Ts) (hsame : ref = (T k).1) (hfin : (T k).2.2.2 = false) (hd : (T k).2.2.1 = "I")
    (hset : ∀ f v, (fs f).set k (.int v) = fs (upd f k v)) (hlen : ∀ f, k < (fs f).length) (hkl : k < ln q) {v : Int32} {idx : Nat} (hix : ix q k = idx)
    (hdg : decode cc pc = .ok (.putfield index, 3)) (kk : ∀ (H1 : Heap) (locs1 : List Loc), va_P D vwCl (WL D x (va_up μ i (upd g idx v))) H1 → va_S (rng x) H0 H1 locs1 → W p l e R s m args below meth c H1 locs1 cells slots Q (F0 m (pc + 3) ls rest)) : W p l e R s m args below meth c H locs cells slots Q (F0 m pc ls (.int v :: .ref (x + o) :: rest)) := by
  subst hix
  refine va_put F.1 F.2.1 F.2.2.2.2 hin ty0 hty hnm F.2.2.2.1 hK hP (WL_D D x _) hS o (fs := fs (vals (va_up μ i g) q)) ((WL_at ho hk).trans (by rw [hmk])) hc k hkN (F.2.2.2.2 _ hlink) (fun z hz => by rw [hsame]; exact hz) hfin (ty := .int) (v := .int v) (by rw [hd]; rfl) rfl rfl (hlen _) hdg fun H1 locs1 h1 _ h3 => kk H1 locs1 ?_ h3
  rw [hset, ← hmk, WL_set ho hk hr hkl v] at h1
  exact h1
theorem x_iald (F : CallFix p m c cc nL s args Ts own) (hK : va_K D vwCl (tyX D) s) (hP : va_P D vwCl (WL D x μ) H) {o : Nat} (ho : o < 349) {q : Nat × Nat × Nat} (hk : kd o = q) {g : Row} (hg : μ (rg q) = g) {n : Nat} (hmk : ∀ f, mk D x q f = .inl (D.1 6, (n, .inl f))) (hn : ln q = n) {i : Int32} (hin : ¬ oob i n) {v : Int32} (hv : g (ix q i.toNatClampNeg) = v)
    (hdg : decode cc pc = .ok (.iaload, 1)) (kk : W p l e R s m args below meth c H locs cells slots Q (F0 m (pc + 1) ls (.int v :: rest))) : W p l e R s m args below meth c H locs cells slots Q (F0 m pc ls (.int i :: .ref (x + o) :: rest)) := by
  have h := va_iald (D := D) (cl := vwCl) (tys := tyX D) (ws := WL D x μ) F.1 F.2.1 hK hP o 0 (cA := D.1 6) (n := n) (f := vals μ q) ((WL_at ho hk).trans (by rw [hmk])) rfl (i := i) (rest := rest) (ls := ls) (locs := locs) (cells := cells) (slots := slots) (Q := Q) (p := p) (l := l) (e := e) (R := R) (m := m) (args := args) (below := below) (meth := meth) hin hdg
  rw [vals_at rfl hg (by rw [hn]; exact oob_lt hin), hv] at h
  exact h kk
theorem x_zald (F : CallFix p m c cc nL s args Ts own) (hK : va_K D vwCl (tyX D) s) (hP : va_P D vwCl (WL D x μ) H) {o : Nat} (ho : o < 349) {q : Nat × Nat × Nat} (hk : kd o = q) {g : Row} (hg : μ (rg q) = g) {n : Nat} (hmk : ∀ f, mk D x q f = .inl (D.1 7, (n, .inl f))) (hn : ln q = n) {i : Int32} (hin : ¬ oob i n) {v : Int32} (hv : g (ix q i.toNatClampNeg) = v)
    (hdg : decode cc pc = .ok (.baload, 1)) (kk : W p l e R s m args below meth c H locs cells slots Q (F0 m (pc + 1) ls (.int v :: rest))) : W p l e R s m args below meth c H locs cells slots Q (F0 m pc ls (.int i :: .ref (x + o) :: rest)) := by
  have h := va_zald (D := D) (cl := vwCl) (tys := tyX D) (ws := WL D x μ) F.1 F.2.1 hK hP o 1 (cA := D.1 7) (n := n) (f := vals μ q) ((WL_at ho hk).trans (by rw [hmk])) rfl (i := i) (rest := rest) (ls := ls) (locs := locs) (cells := cells) (slots := slots) (Q := Q) (p := p) (l := l) (e := e) (R := R) (m := m) (args := args) (below := below) (meth := meth) hin hdg
  rw [vals_at rfl hg (by rw [hn]; exact oob_lt hin), hv] at h
  exact h kk
theorem x_iast (F : CallFix p m c cc nL s args Ts own) (hK : va_K D vwCl (tyX D) s) {r : Nat} {g : Row} (hP : va_P D vwCl (WL D x (va_up μ r g)) H) (hS : va_S (rng x) H0 H locs) {o : Nat} (ho : o < 349) {q : Nat × Nat × Nat} (hk : kd o = q) (hr : rg q = r) {n : Nat} (hmk : ∀ f, mk D x q f = .inl (D.1 6, (n, .inl f))) (hn : ln q = n) {i : Int32} (hin : ¬ oob i n) {v : Int32} {idx : Nat} (hix : ix q i.toNatClampNeg = idx)
    (hdg : decode cc pc = .ok (.iastore, 1)) (kk : ∀ (H1 : Heap) (locs1 : List Loc), va_P D vwCl (WL D x (va_up μ r (upd g idx v))) H1 → va_S (rng x) H0 H1 locs1 → W p l e R s m args below meth c H1 locs1 cells slots Q (F0 m (pc + 1) ls rest)) : W p l e R s m args below meth c H locs cells slots Q (F0 m pc ls (.int v :: .int i :: .ref (x + o) :: rest)) := by
  subst hix
  refine va_iast F.1 F.2.1 hK hP (WL_D D x _) hS o 0 (cA := D.1 6) (n := n) (f := vals (va_up μ r g) q) ((WL_at ho hk).trans (by rw [hmk])) rfl hin hdg fun H1 locs1 h1 _ h3 => kk H1 locs1 ?_ h3
  rw [← hmk, WL_set ho hk hr (by rw [hn]; exact oob_lt hin) v] at h1
  exact h1
theorem x_zast (F : CallFix p m c cc nL s args Ts own) (hK : va_K D vwCl (tyX D) s) {r : Nat} {g : Row} (hP : va_P D vwCl (WL D x (va_up μ r g)) H) (hS : va_S (rng x) H0 H locs) {o : Nat} (ho : o < 349) {q : Nat × Nat × Nat} (hk : kd o = q) (hr : rg q = r) {n : Nat} (hmk : ∀ f, mk D x q f = .inl (D.1 7, (n, .inl f))) (hn : ln q = n) {i : Int32} (hin : ¬ oob i n) {v : Int32} (hb : vp_nar .boolean v = v) {idx : Nat} (hix : ix q i.toNatClampNeg = idx)
    (hdg : decode cc pc = .ok (.bastore, 1)) (kk : ∀ (H1 : Heap) (locs1 : List Loc), va_P D vwCl (WL D x (va_up μ r (upd g idx v))) H1 → va_S (rng x) H0 H1 locs1 → W p l e R s m args below meth c H1 locs1 cells slots Q (F0 m (pc + 1) ls rest)) : W p l e R s m args below meth c H locs cells slots Q (F0 m pc ls (.int v :: .int i :: .ref (x + o) :: rest)) := by
  subst hix
  refine va_zast F.1 F.2.1 hK hP (WL_D D x _) hS o 1 (cA := D.1 7) (n := n) (f := vals (va_up μ r g) q) ((WL_at ho hk).trans (by rw [hmk])) rfl hin hdg fun H1 locs1 h1 _ h3 => kk H1 locs1 ?_ h3
  rw [hb, ← hmk, WL_set ho hk hr (by rw [hn]; exact oob_lt hin) v] at h1
  exact h1
theorem x_aald (F : CallFix p m c cc nL s args Ts own) (hK : va_K D vwCl (tyX D) s) (hP : va_P D vwCl (WL D x μ) H) {o : Nat} (ho : o < 349) {q : Nat × Nat × Nat} (hk : kd o = q) {n t0 cA : Nat} {C : String} {f : Nat → Option Nat} (hmk : ∀ z, mk D x q z = .inl (cA, (n, .inr (.inr (.inr (.inr f)))))) (ht : (tyX D)[t0]? = some (cA, .object C)) {i : Int32} (hin : ¬ oob i n) {a : Nat} (hv : f i.toNatClampNeg = some a)
    (hdg : decode cc pc = .ok (.aaload, 1)) (kk : W p l e R s m args below meth c H locs cells slots Q (F0 m (pc + 1) ls (.ref a :: rest))) : W p l e R s m args below meth c H locs cells slots Q (F0 m pc ls (.int i :: .ref (x + o) :: rest)) := by
  have h := va_aldq (D := D) (cl := vwCl) (tys := tyX D) (ws := WL D x μ) F.1 F.2.1 hK hP o t0 (cA := cA) (n := n) (f := f) ((WL_at ho hk).trans (by rw [hmk])) ht (i := i) (rest := rest) (ls := ls) (locs := locs) (cells := cells) (slots := slots) (Q := Q) (p := p) (l := l) (e := e) (R := R) (m := m) (args := args) (below := below) (meth := meth) hin hdg
  rw [hv] at h
  exact h kk
/-- ends -/
theorem x_iret {as : Array Value} {v : Int32} {μ' : Mem} (F : CallFix p m c cc nL s as Ts own) (hr : meth.sig.returnType = some .int) (hlk : meth.locks = false) (hP : va_P D vwCl (WL D x μ) H) (hS : va_S (rng x) s.heap H locs) (hm : μ = μ') (hdg : decode cc pc = .ok (.ireturn, 1)) :
    W p l e R s m as below meth c H locs 0 0 (MQ below (QX D x μ' (some (.int v))) as s 0 0 (rng x)) (F0 m pc ls [.int v]) :=
  W.iret (v := v) F.1 F.2.1 hr (fun t ht hW => ⟨rfl, by rw [ht, ← hm]; exact hP, hS.F ht⟩) hS.2.2 hdg hlk
theorem x_lret {as : Array Value} {v : Int64} {μ' : Mem} (F : CallFix p m c cc nL s as Ts own) (hr : meth.sig.returnType = some .long) (hlk : meth.locks = false) (hP : va_P D vwCl (WL D x μ) H) (hS : va_S (rng x) s.heap H locs) (hm : μ = μ') (hdg : decode cc pc = .ok (.lreturn, 1)) :
    W p l e R s m as below meth c H locs 0 0 (MQ below (QX D x μ' (some (.long v))) as s 0 0 (rng x)) (F0 m pc ls [.long v]) :=
  W.lret (v := v) F.1 F.2.1 hr (fun t ht hW => ⟨rfl, by rw [ht, ← hm]; exact hP, hS.F ht⟩) hS.2.2 hdg hlk
theorem x_zret {as : Array Value} {v : Int32} {μ' : Mem} (F : CallFix p m c cc nL s as Ts own) (hr : meth.sig.returnType = some .boolean) (hlk : meth.locks = false) (hP : va_P D vwCl (WL D x μ) H) (hS : va_S (rng x) s.heap H locs) (hm : μ = μ') (hb : vp_nar .boolean v = v) (hdg : decode cc pc = .ok (.ireturn, 1)) :
    W p l e R s m as below meth c H locs 0 0 (MQ below (QX D x μ' (some (.int v))) as s 0 0 (rng x)) (F0 m pc ls [.int v]) :=
  W.zret (v := v) (ty := .boolean) F.1 F.2.1 hr (by have h : narrow .boolean (.int v) = .int (vp_nar .boolean v) := rfl; rw [h, hb]) (fun t ht hW => ⟨rfl, by rw [ht, ← hm]; exact hP, hS.F ht⟩) hS.2.2 hdg hlk
theorem x_vret {as : Array Value} {μ' : Mem} (F : CallFix p m c cc nL s as Ts own) (hr : meth.sig.returnType = none) (hlk : meth.locks = false) (hP : va_P D vwCl (WL D x μ) H) (hS : va_S (rng x) s.heap H locs) (hm : μ = μ') (hdg : decode cc pc = .ok (.return_, 1)) :
    W p l e R s m as below meth c H locs 0 0 (MQ below (QX D x μ' none) as s 0 0 (rng x)) (F0 m pc ls []) :=
  W.vret F.1 F.2.1 hr (fun t ht hW => ⟨rfl, by rw [ht, ← hm]; exact hP, hS.F ht⟩) hS.2.2 hdg hlk
theorem x_iretT {as : Array Value} {v : Int32} {μ' : Mem} {mc ms : Nat} (F : CallFix p m c cc nL s as Ts own) (hr : meth.sig.returnType = some .int) (hlk : meth.locks = false) (hP : va_P D vwCl (WL D x μ) H) (hS : va_S (rng x) s.heap H locs) (hm : μ = μ') (hc : cells ≤ mc) (hs : slots ≤ ms) (hdg : decode cc pc = .ok (.ireturn, 1)) :
    W p l e R s m as below meth c H locs cells slots (vx_MQ below (QT D x μ' 0 (some (.int v))) (XT D x μ' 0) as s mc ms (rng x)) (F0 m pc ls [.int v]) :=
  W.widen hc hs (vx_ret (W.iret (v := v) F.1 F.2.1 hr (fun t ht hW => ⟨rfl, rfl, by rw [ht, ← hm]; exact hP, hS.F ht⟩) hS.2.2 hdg hlk))
theorem x_zretT {as : Array Value} {v : Int32} {μ' : Mem} {mc ms : Nat} (F : CallFix p m c cc nL s as Ts own) (hr : meth.sig.returnType = some .boolean) (hlk : meth.locks = false) (hP : va_P D vwCl (WL D x μ) H) (hS : va_S (rng x) s.heap H locs) (hm : μ = μ') (hb : vp_nar .boolean v = v) (hc : cells ≤ mc) (hs : slots ≤ ms) (hdg : decode cc pc = .ok (.ireturn, 1)) :
    W p l e R s m as below meth c H locs cells slots (vx_MQ below (QT D x μ' 0 (some (.int v))) (XT D x μ' 0) as s mc ms (rng x)) (F0 m pc ls [.int v]) :=
  W.widen hc hs (vx_ret (W.zret (v := v) (ty := .boolean) F.1 F.2.1 hr (by have h : narrow .boolean (.int v) = .int (vp_nar .boolean v) := rfl; rw [h, hb]) (fun t ht hW => ⟨rfl, rfl, by rw [ht, ← hm]; exact hP, hS.F ht⟩) hS.2.2 hdg hlk))
theorem x_vretT {as : Array Value} {μ' : Mem} {mc ms : Nat} (F : CallFix p m c cc nL s as Ts own) (hr : meth.sig.returnType = none) (hlk : meth.locks = false) (hP : va_P D vwCl (WL D x μ) H) (hS : va_S (rng x) s.heap H locs) (hm : μ = μ') (hc : cells ≤ mc) (hs : slots ≤ ms) (hdg : decode cc pc = .ok (.return_, 1)) :
    W p l e R s m as below meth c H locs cells slots (vx_MQ below (QT D x μ' 0 none) (XT D x μ' 0) as s mc ms (rng x)) (F0 m pc ls []) :=
  W.widen hc hs (vx_ret (W.vret F.1 F.2.1 hr (fun t ht hW => ⟨rfl, rfl, by rw [ht, ← hm]; exact hP, hS.F ht⟩) hS.2.2 hdg hlk))
/-- calls -/
theorem x_run {μ' : Mem} {v : Option Value} {st0 : List Value} (hr : va_Run p l e R s m args below meth c H locs cells slots 0 0 (F0 m pc ls st0) rest (fun st o t => o = .returned v ∧ va_P D vwCl (WL D x μ') t.heap ∧ va_F (rng x) st t) (rng x)) (hS : va_S (rng x) H0 H locs)
    (kk : ∀ (H1 : Heap) (locs1 : List Loc), va_P D vwCl (WL D x μ') H1 → va_S (rng x) H0 H1 locs1 → W p l e R s m args below meth c H1 locs1 cells slots Q (F0 m (pc + 3) ls (v.toList ++ rest))) : W p l e R s m args below meth c H locs cells slots Q (F0 m pc ls st0) := by
  intro T hT X
  obtain ⟨v2, st₀, t, T', L, h0, X', hL, e1, e2, ⟨hv, hb, hF⟩, st⟩ := hr T hT X
  cases hv
  obtain ⟨k1, k2, k3⟩ := vx_keep h0 e1 hS (fun q _ h => h) (fun q h => h) hL hF
  obtain ⟨t2, a1, b1⟩ := kk T'.heap (locs ++ L) (by rw [e1]; exact hb) k3 T' rfl X'
  exact ⟨t2, st t2 a1, b1⟩
theorem x_recv (hK : va_K D vwCl (tyX D) s) (hP : va_P D vwCl (WL D x μ) H) {o : Nat} (ho : o < 349) {q : Nat × Nat × Nat} (hk : kd o = q) {ci : Nat} {fs : Row → List Value} (hmk : ∀ f, mk D x q f = .inr (ci, fs f)) {C : String} {T : u_T} {N : Nat} (hc : vwCl[ci]? = some (C, T, N)) : ∃ cellB : Cell, H[x + o]? = some cellB ∧ cellB.vm.isStatics = false ∧ s.vm.findClass C = some cellB.cls := by
  obtain ⟨r, h1, cell, q1, q2, q3, q4⟩ := hP o _ ((WL_at ho hk).trans (by rw [hmk]))
  have hr : r = (C, T, N) := Option.some.inj (h1.symm.trans hc)
  subst hr
  exact ⟨cell, q1, by rw [q3]; rfl, by rw [q2]; exact (hK.1 ci _ hc).2.1⟩
theorem x_callV (F : CallFix p m c cc nL s args Ts own) (hK : va_K D vwCl (tyX D) s) (hG : SG x s s.heap) (hP : va_P D vwCl (WL D x μ) H) (hS : va_S (rng x) s.heap H locs) {o : Nat} (ho : o < 349) {q : Nat × Nat × Nat} (hk : kd o = q) {ci : Nat} {fs : Row → List Value} (hmk : ∀ f, mk D x q f = .inr (ci, fs f)) {C : String} {T : u_T} {N : Nat} (hc : vwCl[ci]? = some (C, T, N))
    {y : MethodName} {ws : List Cond} {rm : Room} {As : List Value} {μ' : Mem} {v : Option Value} {index n maxL : Nat} {bytes : ByteArray} {ret : Option FieldType} (hM : CX l y ws rm (.ref (x + o) :: As) D x μ v μ') (cw : CallW R s args own C index y bytes maxL ret ws rm 0 0 n) (hn : As.length = n) {st : List Value} (hst : st = As.reverse ++ .ref (x + o) :: rest) (hsz : ls.size = nL)
    (hW : (rest.map fun v => v.category).sum ≤ 8) (hdg : decode cc pc = .ok (.invokevirtual index, 3)) (hf : cells ≤ R.cells ∧ slots ≤ R.slots) (kk : ∀ (H1 : Heap) (locs1 : List Loc), va_P D vwCl (WL D x μ') H1 → va_S (rng x) s.heap H1 locs1 → W p l e R s m args below meth c H1 locs1 cells slots Q (F0 m (pc + 3) ls (v.toList ++ rest))) : W p l e R s m args below meth c H locs cells slots Q (F0 m pc ls st) := by
  refine x_run (va_runV (g := F0 m pc ls st) F hM cw ⟨KX.blind, x_recv hK hP ho hk hmk hc, fun U hU hW => ⟨rfl, by rw [hU]; exact hP, va_K.moved hW.alike hK, by rw [hU]; exact hG.to hW hS.2.1⟩⟩ rfl hn hsz hst (by show 2 * 0 + _ ≤ 8; omega) hdg hf) hS kk
theorem x_callS (F : CallFix p m c cc nL s args Ts own) (hK : va_K D vwCl (tyX D) s) (hG : SG x s s.heap) (hP : va_P D vwCl (WL D x μ) H) (hS : va_S (rng x) s.heap H locs)
    {y : MethodName} {ws : List Cond} {rm : Room} {As : List Value} {μ' : Mem} {v : Option Value} {index n maxL : Nat} {bytes : ByteArray} {ret : Option FieldType} (hM : CX l y ws rm As D x μ v μ') (cw : CallB R s args own index y bytes maxL ret ws rm 0 0 n ∧ (Cond.static y).before args s = true) (hn : As.length = n) {st : List Value} (hst : st = As.reverse ++ rest) (hsz : ls.size = nL)
    (hW : (rest.map fun v => v.category).sum ≤ 8) (hdg : decode cc pc = .ok (.invokestatic index, 3)) (hf : cells ≤ R.cells ∧ slots ≤ R.slots) (kk : ∀ (H1 : Heap) (locs1 : List Loc), va_P D vwCl (WL D x μ') H1 → va_S (rng x) s.heap H1 locs1 → W p l e R s m args below meth c H1 locs1 cells slots Q (F0 m (pc + 3) ls (v.toList ++ rest))) : W p l e R s m args below meth c H locs cells slots Q (F0 m pc ls st) := by
  refine x_run (va_runS (g := F0 m pc ls st) F hM cw ⟨KX.blind, fun U hU hW => ⟨rfl, by rw [hU]; exact hP, va_K.moved hW.alike hK, by rw [hU]; exact hG.to hW hS.2.1⟩⟩ rfl hn hsz hst (by show 2 * 0 + _ ≤ 8; omega) hdg hf) hS kk
/-- a callee that may throw, in a method without handlers: what it throws goes on -/
theorem x_runT {as : Array Value} {μ' μ2 : Mem} {k k2 mc ms mc2 ms2 : Nat} {v v2 : Option Value} {st0 : List Value} (hr : vx_Run p l e R s m as below meth c H locs cells slots mc ms (F0 m pc ls st0) rest (fun st o t => k = 0 ∧ o = .returned v ∧ va_P D vwCl (WL D x μ') t.heap ∧ va_F (rng x) st t) (XT D x μ' k) (rng x)) (hS : va_S (rng x) s.heap H locs) (hx : ∀ z ∈ c.exceptionTable.toList, False) (hlk : meth.locks = false) (hcc : cells + mc ≤ mc2) (hss : slots + ms ≤ ms2)
    (kt : k ≠ 0 → k2 = k ∧ μ2 = μ')
    (kk : k = 0 → ∀ (H1 : Heap) (locs1 : List Loc), va_P D vwCl (WL D x μ') H1 → va_S (rng x) s.heap H1 locs1 → W p l e R s m as below meth c H1 locs1 (cells + mc) (slots + ms) (vx_MQ below (QT D x μ2 k2 v2) (XT D x μ2 k2) as s mc2 ms2 (rng x)) (F0 m (pc + 3) ls (v.toList ++ rest))) : W p l e R s m as below meth c H locs cells slots (vx_MQ below (QT D x μ2 k2 v2) (XT D x μ2 k2) as s mc2 ms2 (rng x)) (F0 m pc ls st0) := by
  intro T hT X
  rcases hr T hT X with ⟨v2, st₀, t, T', L, h0, X', hL, e1, e2, ⟨hk0, hv, hb, hF⟩, st⟩ | ⟨q, st₀, t, T', L, E, ce, h0, X', hL, e1, e2, ⟨hk0, hE, hb, hF⟩, hce, hcv, hcl, st⟩
  · cases hv
    obtain ⟨j1, j2, j3⟩ := vx_keep h0 e1 hS (fun q _ h => h) (fun q h => h) hL hF
    obtain ⟨t2, a1, b1⟩ := kk hk0 T'.heap (locs ++ L) (by rw [e1]; exact hb) j3 T' rfl X'
    exact ⟨t2, st t2 a1, b1⟩
  · obtain ⟨j1, j2, j3⟩ := vx_keep h0 e1 hS (fun q _ h => h) (fun q h => h) hL hF
    obtain ⟨r1, r2⟩ := kt hk0
    subst r1; subst r2
    have hW := vx_out (p := p) (l := l) (e := e) (R := R) (s := s) (m := m) (args := as) (below := below) (meth := meth) (c := c) (H := T'.heap) (locs := locs ++ L) (cells := cells + mc) (slots := slots + ms) (ls := ls) (rest := rest) (free := rng x) (Qc := QT D x μ2 k2 v2) (XC := XT D x μ2 k2) (pc := pc) (E := E) (ce := ce) (q := q) (mc := mc2) (ms := ms2) (fun z hz => (hx z hz).elim) hlk (by rw [e1]; exact hce) hcv hcl
      (fun t9 ht9 _ => ⟨hk0, hE, by rw [ht9, e1]; exact hb, va_S.F j3 ht9⟩) j3.2.2 hcc hss
    obtain ⟨t2, a1, b1⟩ := hW T' rfl X'
    exact ⟨t2, st.trans a1, b1⟩
theorem x_callVT {as : Array Value} (F : CallFix p m c cc nL s as Ts own) (hK : va_K D vwCl (tyX D) s) (hG : SG x s s.heap) (hP : va_P D vwCl (WL D x μ) H) (hS : va_S (rng x) s.heap H locs) (hx : ∀ z ∈ c.exceptionTable.toList, False) (hlk : meth.locks = false) {o : Nat} (ho : o < 349) {q : Nat × Nat × Nat} (hk : kd o = q) {ci : Nat} {fs : Row → List Value} (hmk : ∀ f, mk D x q f = .inr (ci, fs f)) {C : String} {T : u_T} {N : Nat} (hc : vwCl[ci]? = some (C, T, N))
    {y : MethodName} {ws : List Cond} {rm : Room} {As : List Value} {μ' μ2 : Mem} {k k2 mc ms mc2 ms2 : Nat} {v v2 : Option Value} {index n maxL : Nat} {bytes : ByteArray} {ret : Option FieldType} (hM : TX l y ws rm mc ms (.ref (x + o) :: As) D x μ k v μ') (cw : CallW R s as own C index y bytes maxL ret ws rm mc ms n) (hn : As.length = n) {st : List Value} (hst : st = As.reverse ++ .ref (x + o) :: rest) (hsz : ls.size = nL)
    (hW : (rest.map fun v => v.category).sum ≤ 8) (hdg : decode cc pc = .ok (.invokevirtual index, 3)) (hf : cells + mc ≤ R.cells ∧ slots + ms ≤ R.slots) (hcc : cells + mc ≤ mc2) (hss : slots + ms ≤ ms2) (kt : k ≠ 0 → k2 = k ∧ μ2 = μ')
    (kk : k = 0 → ∀ (H1 : Heap) (locs1 : List Loc), va_P D vwCl (WL D x μ') H1 → va_S (rng x) s.heap H1 locs1 → W p l e R s m as below meth c H1 locs1 (cells + mc) (slots + ms) (vx_MQ below (QT D x μ2 k2 v2) (XT D x μ2 k2) as s mc2 ms2 (rng x)) (F0 m (pc + 3) ls (v.toList ++ rest))) : W p l e R s m as below meth c H locs cells slots (vx_MQ below (QT D x μ2 k2 v2) (XT D x μ2 k2) as s mc2 ms2 (rng x)) (F0 m pc ls st) :=
  x_runT (vx_runV (g := F0 m pc ls st) F hM cw ⟨KX.blind, x_recv hK hP ho hk hmk hc, fun U hU hW => ⟨rfl, by rw [hU]; exact hP, va_K.moved hW.alike hK, by rw [hU]; exact hG.to hW hS.2.1⟩⟩ rfl hn hsz hst (by show 2 * 0 + _ ≤ 8; omega) hdg hf) hS hx hlk hcc hss kt kk
theorem x_callST {as : Array Value} (F : CallFix p m c cc nL s as Ts own) (hK : va_K D vwCl (tyX D) s) (hG : SG x s s.heap) (hP : va_P D vwCl (WL D x μ) H) (hS : va_S (rng x) s.heap H locs) (hx : ∀ z ∈ c.exceptionTable.toList, False) (hlk : meth.locks = false)
    {y : MethodName} {ws : List Cond} {rm : Room} {As : List Value} {μ' μ2 : Mem} {k k2 mc ms mc2 ms2 : Nat} {v v2 : Option Value} {index n maxL : Nat} {bytes : ByteArray} {ret : Option FieldType} (hM : TX l y ws rm mc ms As D x μ k v μ') (cw : CallB R s as own index y bytes maxL ret ws rm mc ms n ∧ (Cond.static y).before as s = true) (hn : As.length = n) {st : List Value} (hst : st = As.reverse ++ rest) (hsz : ls.size = nL)
    (hW : (rest.map fun v => v.category).sum ≤ 8) (hdg : decode cc pc = .ok (.invokestatic index, 3)) (hf : cells + mc ≤ R.cells ∧ slots + ms ≤ R.slots) (hcc : cells + mc ≤ mc2) (hss : slots + ms ≤ ms2) (kt : k ≠ 0 → k2 = k ∧ μ2 = μ')
    (kk : k = 0 → ∀ (H1 : Heap) (locs1 : List Loc), va_P D vwCl (WL D x μ') H1 → va_S (rng x) s.heap H1 locs1 → W p l e R s m as below meth c H1 locs1 (cells + mc) (slots + ms) (vx_MQ below (QT D x μ2 k2 v2) (XT D x μ2 k2) as s mc2 ms2 (rng x)) (F0 m (pc + 3) ls (v.toList ++ rest))) : W p l e R s m as below meth c H locs cells slots (vx_MQ below (QT D x μ2 k2 v2) (XT D x μ2 k2) as s mc2 ms2 (rng x)) (F0 m pc ls st) :=
  x_runT (vx_runS (g := F0 m pc ls st) F hM cw ⟨KX.blind, fun U hU hW => ⟨rfl, by rw [hU]; exact hP, va_K.moved hW.alike hK, by rw [hU]; exact hG.to hW hS.2.1⟩⟩ rfl hn hsz hst (by show 2 * 0 + _ ≤ 8; omega) hdg hf) hS hx hlk hcc hss kt kk
end RX
theorem x_up {D : va_G} {x : Nat} {μ : Mem} {H : Heap} (i : Nat) (hP : va_P D vwCl (WL D x μ) H) : va_P D vwCl (WL D x (va_up μ i (μ i))) H := by rw [mu_self]; exact hP
theorem at1_good : (vx_atS RX4 206 "java/lang/IllegalArgumentException" ["java/lang/RuntimeException", "java/lang/Exception"]).all (fun w => goodWord w || (decide (w = Cond.castable (exN 1) (exN 1)) || (decide (w = Cond.declares (Bundle.initS (spN 0))) || (decide (w = Cond.declares (Bundle.initS (spN 1))) || decide (w = Cond.declares (Bundle.initS (spN 2))))))) = true := by decide +kernel
theorem at2_good : (vx_atS RX4 56 "java/lang/IllegalStateException" ["java/lang/RuntimeException", "java/lang/Exception"]).all (fun w => goodWord w || (decide (w = Cond.castable (exN 2) (exN 2)) || (decide (w = Cond.declares (Bundle.initS (spN 0))) || (decide (w = Cond.declares (Bundle.initS (spN 1))) || decide (w = Cond.declares (Bundle.initS (spN 2))))))) = true := by decide +kernel
theorem at3_good : (vx_atS RX4 130 "java/lang/IndexOutOfBoundsException" ["java/lang/RuntimeException", "java/lang/Exception"]).all (fun w => goodWord w || (decide (w = Cond.castable (exN 3) (exN 3)) || (decide (w = Cond.declares (Bundle.initS (spN 0))) || (decide (w = Cond.declares (Bundle.initS (spN 1))) || decide (w = Cond.declares (Bundle.initS (spN 2))))))) = true := by decide +kernel
theorem ot_or {w : Cond} {k : Nat} (h : (goodWord w || (decide (w = Cond.castable (exN k) (exN k)) || (decide (w = Cond.declares (Bundle.initS (spN 0))) || (decide (w = Cond.declares (Bundle.initS (spN 1))) || decide (w = Cond.declares (Bundle.initS (spN 2))))))) = true) : goodWord w = true ∨ w = Cond.castable (exN k) (exN k) ∨ ∃ j, w = Cond.declares (Bundle.initS (spN j)) := by
  simp only [Bool.or_eq_true, decide_eq_true_eq] at h
  rcases h with h | h | h | h | h
  · exact Or.inl h
  · exact Or.inr (Or.inl h)
  · exact Or.inr (Or.inr ⟨0, h⟩)
  · exact Or.inr (Or.inr ⟨1, h⟩)
  · exact Or.inr (Or.inr ⟨2, h⟩)
theorem ot_of {w : Cond} {k : Nat} (h : (goodWord w || (decide (w = Cond.castable (exN k) (exN k)) || (decide (w = Cond.declares (Bundle.initS (spN 0))) || (decide (w = Cond.declares (Bundle.initS (spN 1))) || decide (w = Cond.declares (Bundle.initS (spN 2))))))) = true) : vx_ot w = true := by
  rcases ot_or h with h | h | ⟨j, h⟩
  · unfold vx_ot
    rw [h, Bool.or_true]
  · rw [h]
    rfl
  · rw [h]
    rfl
theorem at_ok {L Ts : List Cond} {args : Array Value} {s : State} {k : Nat} (hg : L.all (fun w => goodWord w || (decide (w = Cond.castable (exN k) (exN k)) || (decide (w = Cond.declares (Bundle.initS (spN 0))) || (decide (w = Cond.declares (Bundle.initS (spN 1))) || decide (w = Cond.declares (Bundle.initS (spN 2))))))) = true) (h : ∀ w ∈ L.filter goodWord, w ∈ Ts) (ht : ∀ w ∈ Ts, w.before args s = true) (hc : va_Nw (.castable (exN k) (exN k)) s) (hd : ∀ j, va_Nw (.declares (Bundle.initS (spN j))) s) : ∀ w ∈ L, w.before args s = true := by
  intro w hw
  rcases ot_or (List.all_eq_true.mp hg w hw) with h1 | h1 | ⟨j, h1⟩
  · exact ht w (h w (List.mem_filter.mpr ⟨hw, h1⟩))
  · rw [h1]
    exact va_Nw.use rfl hc
  · rw [h1]
    exact va_Nw.use rfl (hd j)
section TX
variable {p : Program} {l : Launch} {e : Env} {R : Room} {s : State} {m : MethodId} {below : List Frame} {meth : Method} {c : Code} {H : Heap} {locs : List Loc} {cells slots : Nat}
variable {cc : ByteArray} {pc : Nat} {ls : Array Slot} {rest : List Value} {D : va_G} {x : Nat} {μ : Mem} {Ts : List Cond} {nL : Nat}
theorem x_throw1 {as : Array Value} {μ' : Mem} {mc ms is : Nat} {text : String} {v : Option Value} (F : CallFix p m c cc nL s as Ts RX4) (hlt : l.stackTraces = false) (hG : SG x s s.heap) (hP : va_P D vwCl (WL D x μ) H) (hS : va_S (rng x) s.heap H locs) (hx : ∀ z ∈ c.exceptionTable.toList, False) (hlk : meth.locks = false) (hm : μ = μ') (hw1 : Cond.classLink RX4 202 "java/lang/IllegalArgumentException" ∈ Ts) (hw2 : Cond.initialized "java/lang/IllegalArgumentException" ∈ Ts) (hw3 : ∀ w ∈ (vx_atS RX4 206 "java/lang/IllegalArgumentException" ["java/lang/RuntimeException", "java/lang/Exception"]).filter goodWord, w ∈ Ts) (hstr : (is, text) ∈ strs) (hsz : ls.size = nL)
    (d0 : decode cc pc = .ok (.new 202, 3)) (d3 : decode cc (pc + 3) = .ok (.dup, 1)) (d4 : decode cc (pc + 4) = .ok (.ldc is, 2)) (d6 : decode cc (pc + 6) = .ok (.invokespecial 206, 3)) (d9 : decode cc (pc + 9) = .ok (.athrow, 1)) (hRf : 5 < R.frames) (hRl : (rest.map fun v => v.category).sum + 82 ≤ R.locals) (hRc : cells + 1 ≤ R.cells) (hRs : slots + 6 ≤ R.slots) (hcc : cells + 1 ≤ mc) (hss : slots + 6 ≤ ms) :
    W p l e R s m as below meth c H locs cells slots (vx_MQ below (QT D x μ' 1 v) (XT D x μ' 1) as s mc ms (rng x)) (F0 m pc ls rest) := by
  obtain ⟨sa, hsa⟩ := hG.2.2.2.2.2.1 _ hstr
  have hwat := at_ok at1_good hw3 F.2.2.2.2 (hG.2.2.2.2.2.2.1 1) hG.2.2.2.2.2.2.2
  refine vx_throwS (own := RX4) (cls := "java/lang/IllegalArgumentException") (text := text) (names := ["java/lang/RuntimeException", "java/lang/Exception"]) (ik := 202) (is := is) (ic := 206) (sa := sa) (A := rng x) F.1 F.2.1 hlt F.2.2.2.1 (by decide +kernel) (by decide +kernel) (F.2.2.2.2 _ hw1) (F.2.2.2.2 _ hw2) hsa hwat ?_ hG.2.2.2.1 hG.2.2.2.2.1 hS (hsz.trans F.2.2.1.symm) d0 d3 d4 d6 d9 (fun z hz => (hx z hz).elim) hRf hRl hRc hRs hlk (fun t ht h1 h2 => ⟨by decide, rfl, ?_, ?_⟩) hS.2.2 hcc hss
  · intro w hw
    rcases List.mem_cons.mp hw with rfl | hw
    · rfl
    · rcases List.mem_cons.mp hw with rfl | hw
      · rfl
      · exact ot_of (List.all_eq_true.mp at1_good w hw)
  · rw [← hm]
    exact hP.kept (fun k q hk => h2 q.1 (hP k q hk).lt)
  · exact ⟨Nat.le_trans hS.1 h1, fun q hq hA => by rw [h2 q (Nat.lt_of_lt_of_le hq hS.1)]; exact hS.2.1 q hq hA⟩
theorem x_throw1W {as : Array Value} {μ' : Mem} {mc ms is : Nat} {text : String} {v : Option Value} (F : CallFix p m c cc nL s as Ts RX4) (hlt : l.stackTraces = false) (hG : SG x s s.heap) (hP : va_P D vwCl (WL D x μ) H) (hS : va_S (rng x) s.heap H locs) (hx : ∀ z ∈ c.exceptionTable.toList, False) (hlk : meth.locks = false) (hm : μ = μ') (hw1 : Cond.classLink RX4 202 "java/lang/IllegalArgumentException" ∈ Ts) (hw2 : Cond.initialized "java/lang/IllegalArgumentException" ∈ Ts) (hw3 : ∀ w ∈ (vx_atS RX4 206 "java/lang/IllegalArgumentException" ["java/lang/RuntimeException", "java/lang/Exception"]).filter goodWord, w ∈ Ts) (hstr : (is, text) ∈ strs) (hsz : ls.size = nL)
    (d0 : decode cc pc = .ok (.new 202, 3)) (d3 : decode cc (pc + 3) = .ok (.dup, 1)) (d4 : decode cc (pc + 4) = .ok (.ldc_w is, 3)) (d6 : decode cc (pc + 7) = .ok (.invokespecial 206, 3)) (d9 : decode cc (pc + 10) = .ok (.athrow, 1)) (hRf : 5 < R.frames) (hRl : (rest.map fun v => v.category).sum + 82 ≤ R.locals) (hRc : cells + 1 ≤ R.cells) (hRs : slots + 6 ≤ R.slots) (hcc : cells + 1 ≤ mc) (hss : slots + 6 ≤ ms) :
    W p l e R s m as below meth c H locs cells slots (vx_MQ below (QT D x μ' 1 v) (XT D x μ' 1) as s mc ms (rng x)) (F0 m pc ls rest) := by
  obtain ⟨sa, hsa⟩ := hG.2.2.2.2.2.1 _ hstr
  have hwat := at_ok at1_good hw3 F.2.2.2.2 (hG.2.2.2.2.2.2.1 1) hG.2.2.2.2.2.2.2
  refine vx_throwSW (own := RX4) (cls := "java/lang/IllegalArgumentException") (text := text) (names := ["java/lang/RuntimeException", "java/lang/Exception"]) (ik := 202) (is := is) (ic := 206) (sa := sa) (A := rng x) F.1 F.2.1 hlt F.2.2.2.1 (by decide +kernel) (by decide +kernel) (F.2.2.2.2 _ hw1) (F.2.2.2.2 _ hw2) hsa hwat ?_ hG.2.2.2.1 hG.2.2.2.2.1 hS (hsz.trans F.2.2.1.symm) d0 d3 d4 d6 d9 (fun z hz => (hx z hz).elim) hRf hRl hRc hRs hlk (fun t ht h1 h2 => ⟨by decide, rfl, ?_, ?_⟩) hS.2.2 hcc hss
  · intro w hw
    rcases List.mem_cons.mp hw with rfl | hw
    · rfl
    · rcases List.mem_cons.mp hw with rfl | hw
      · rfl
      · exact ot_of (List.all_eq_true.mp at1_good w hw)
  · rw [← hm]
    exact hP.kept (fun k q hk => h2 q.1 (hP k q hk).lt)
  · exact ⟨Nat.le_trans hS.1 h1, fun q hq hA => by rw [h2 q (Nat.lt_of_lt_of_le hq hS.1)]; exact hS.2.1 q hq hA⟩
theorem x_throw2 {as : Array Value} {μ' : Mem} {mc ms is : Nat} {text : String} {v : Option Value} (F : CallFix p m c cc nL s as Ts RX4) (hlt : l.stackTraces = false) (hG : SG x s s.heap) (hP : va_P D vwCl (WL D x μ) H) (hS : va_S (rng x) s.heap H locs) (hx : ∀ z ∈ c.exceptionTable.toList, False) (hlk : meth.locks = false) (hm : μ = μ') (hw1 : Cond.classLink RX4 52 "java/lang/IllegalStateException" ∈ Ts) (hw2 : Cond.initialized "java/lang/IllegalStateException" ∈ Ts) (hw3 : ∀ w ∈ (vx_atS RX4 56 "java/lang/IllegalStateException" ["java/lang/RuntimeException", "java/lang/Exception"]).filter goodWord, w ∈ Ts) (hstr : (is, text) ∈ strs) (hsz : ls.size = nL)
    (d0 : decode cc pc = .ok (.new 52, 3)) (d3 : decode cc (pc + 3) = .ok (.dup, 1)) (d4 : decode cc (pc + 4) = .ok (.ldc is, 2)) (d6 : decode cc (pc + 6) = .ok (.invokespecial 56, 3)) (d9 : decode cc (pc + 9) = .ok (.athrow, 1)) (hRf : 5 < R.frames) (hRl : (rest.map fun v => v.category).sum + 82 ≤ R.locals) (hRc : cells + 1 ≤ R.cells) (hRs : slots + 6 ≤ R.slots) (hcc : cells + 1 ≤ mc) (hss : slots + 6 ≤ ms) :
    W p l e R s m as below meth c H locs cells slots (vx_MQ below (QT D x μ' 2 v) (XT D x μ' 2) as s mc ms (rng x)) (F0 m pc ls rest) := by
  obtain ⟨sa, hsa⟩ := hG.2.2.2.2.2.1 _ hstr
  have hwat := at_ok at2_good hw3 F.2.2.2.2 (hG.2.2.2.2.2.2.1 2) hG.2.2.2.2.2.2.2
  refine vx_throwS (own := RX4) (cls := "java/lang/IllegalStateException") (text := text) (names := ["java/lang/RuntimeException", "java/lang/Exception"]) (ik := 52) (is := is) (ic := 56) (sa := sa) (A := rng x) F.1 F.2.1 hlt F.2.2.2.1 (by decide +kernel) (by decide +kernel) (F.2.2.2.2 _ hw1) (F.2.2.2.2 _ hw2) hsa hwat ?_ hG.2.2.2.1 hG.2.2.2.2.1 hS (hsz.trans F.2.2.1.symm) d0 d3 d4 d6 d9 (fun z hz => (hx z hz).elim) hRf hRl hRc hRs hlk (fun t ht h1 h2 => ⟨by decide, rfl, ?_, ?_⟩) hS.2.2 hcc hss
  · intro w hw
    rcases List.mem_cons.mp hw with rfl | hw
    · rfl
    · rcases List.mem_cons.mp hw with rfl | hw
      · rfl
      · exact ot_of (List.all_eq_true.mp at2_good w hw)
  · rw [← hm]
    exact hP.kept (fun k q hk => h2 q.1 (hP k q hk).lt)
  · exact ⟨Nat.le_trans hS.1 h1, fun q hq hA => by rw [h2 q (Nat.lt_of_lt_of_le hq hS.1)]; exact hS.2.1 q hq hA⟩
theorem x_throw2W {as : Array Value} {μ' : Mem} {mc ms is : Nat} {text : String} {v : Option Value} (F : CallFix p m c cc nL s as Ts RX4) (hlt : l.stackTraces = false) (hG : SG x s s.heap) (hP : va_P D vwCl (WL D x μ) H) (hS : va_S (rng x) s.heap H locs) (hx : ∀ z ∈ c.exceptionTable.toList, False) (hlk : meth.locks = false) (hm : μ = μ') (hw1 : Cond.classLink RX4 52 "java/lang/IllegalStateException" ∈ Ts) (hw2 : Cond.initialized "java/lang/IllegalStateException" ∈ Ts) (hw3 : ∀ w ∈ (vx_atS RX4 56 "java/lang/IllegalStateException" ["java/lang/RuntimeException", "java/lang/Exception"]).filter goodWord, w ∈ Ts) (hstr : (is, text) ∈ strs) (hsz : ls.size = nL)
    (d0 : decode cc pc = .ok (.new 52, 3)) (d3 : decode cc (pc + 3) = .ok (.dup, 1)) (d4 : decode cc (pc + 4) = .ok (.ldc_w is, 3)) (d6 : decode cc (pc + 7) = .ok (.invokespecial 56, 3)) (d9 : decode cc (pc + 10) = .ok (.athrow, 1)) (hRf : 5 < R.frames) (hRl : (rest.map fun v => v.category).sum + 82 ≤ R.locals) (hRc : cells + 1 ≤ R.cells) (hRs : slots + 6 ≤ R.slots) (hcc : cells + 1 ≤ mc) (hss : slots + 6 ≤ ms) :
    W p l e R s m as below meth c H locs cells slots (vx_MQ below (QT D x μ' 2 v) (XT D x μ' 2) as s mc ms (rng x)) (F0 m pc ls rest) := by
  obtain ⟨sa, hsa⟩ := hG.2.2.2.2.2.1 _ hstr
  have hwat := at_ok at2_good hw3 F.2.2.2.2 (hG.2.2.2.2.2.2.1 2) hG.2.2.2.2.2.2.2
  refine vx_throwSW (own := RX4) (cls := "java/lang/IllegalStateException") (text := text) (names := ["java/lang/RuntimeException", "java/lang/Exception"]) (ik := 52) (is := is) (ic := 56) (sa := sa) (A := rng x) F.1 F.2.1 hlt F.2.2.2.1 (by decide +kernel) (by decide +kernel) (F.2.2.2.2 _ hw1) (F.2.2.2.2 _ hw2) hsa hwat ?_ hG.2.2.2.1 hG.2.2.2.2.1 hS (hsz.trans F.2.2.1.symm) d0 d3 d4 d6 d9 (fun z hz => (hx z hz).elim) hRf hRl hRc hRs hlk (fun t ht h1 h2 => ⟨by decide, rfl, ?_, ?_⟩) hS.2.2 hcc hss
  · intro w hw
    rcases List.mem_cons.mp hw with rfl | hw
    · rfl
    · rcases List.mem_cons.mp hw with rfl | hw
      · rfl
      · exact ot_of (List.all_eq_true.mp at2_good w hw)
  · rw [← hm]
    exact hP.kept (fun k q hk => h2 q.1 (hP k q hk).lt)
  · exact ⟨Nat.le_trans hS.1 h1, fun q hq hA => by rw [h2 q (Nat.lt_of_lt_of_le hq hS.1)]; exact hS.2.1 q hq hA⟩
theorem x_throw3 {as : Array Value} {μ' : Mem} {mc ms is : Nat} {text : String} {v : Option Value} (F : CallFix p m c cc nL s as Ts RX4) (hlt : l.stackTraces = false) (hG : SG x s s.heap) (hP : va_P D vwCl (WL D x μ) H) (hS : va_S (rng x) s.heap H locs) (hx : ∀ z ∈ c.exceptionTable.toList, False) (hlk : meth.locks = false) (hm : μ = μ') (hw1 : Cond.classLink RX4 126 "java/lang/IndexOutOfBoundsException" ∈ Ts) (hw2 : Cond.initialized "java/lang/IndexOutOfBoundsException" ∈ Ts) (hw3 : ∀ w ∈ (vx_atS RX4 130 "java/lang/IndexOutOfBoundsException" ["java/lang/RuntimeException", "java/lang/Exception"]).filter goodWord, w ∈ Ts) (hstr : (is, text) ∈ strs) (hsz : ls.size = nL)
    (d0 : decode cc pc = .ok (.new 126, 3)) (d3 : decode cc (pc + 3) = .ok (.dup, 1)) (d4 : decode cc (pc + 4) = .ok (.ldc is, 2)) (d6 : decode cc (pc + 6) = .ok (.invokespecial 130, 3)) (d9 : decode cc (pc + 9) = .ok (.athrow, 1)) (hRf : 5 < R.frames) (hRl : (rest.map fun v => v.category).sum + 82 ≤ R.locals) (hRc : cells + 1 ≤ R.cells) (hRs : slots + 6 ≤ R.slots) (hcc : cells + 1 ≤ mc) (hss : slots + 6 ≤ ms) :
    W p l e R s m as below meth c H locs cells slots (vx_MQ below (QT D x μ' 3 v) (XT D x μ' 3) as s mc ms (rng x)) (F0 m pc ls rest) := by
  obtain ⟨sa, hsa⟩ := hG.2.2.2.2.2.1 _ hstr
  have hwat := at_ok at3_good hw3 F.2.2.2.2 (hG.2.2.2.2.2.2.1 3) hG.2.2.2.2.2.2.2
  refine vx_throwS (own := RX4) (cls := "java/lang/IndexOutOfBoundsException") (text := text) (names := ["java/lang/RuntimeException", "java/lang/Exception"]) (ik := 126) (is := is) (ic := 130) (sa := sa) (A := rng x) F.1 F.2.1 hlt F.2.2.2.1 (by decide +kernel) (by decide +kernel) (F.2.2.2.2 _ hw1) (F.2.2.2.2 _ hw2) hsa hwat ?_ hG.2.2.2.1 hG.2.2.2.2.1 hS (hsz.trans F.2.2.1.symm) d0 d3 d4 d6 d9 (fun z hz => (hx z hz).elim) hRf hRl hRc hRs hlk (fun t ht h1 h2 => ⟨by decide, rfl, ?_, ?_⟩) hS.2.2 hcc hss
  · intro w hw
    rcases List.mem_cons.mp hw with rfl | hw
    · rfl
    · rcases List.mem_cons.mp hw with rfl | hw
      · rfl
      · exact ot_of (List.all_eq_true.mp at3_good w hw)
  · rw [← hm]
    exact hP.kept (fun k q hk => h2 q.1 (hP k q hk).lt)
  · exact ⟨Nat.le_trans hS.1 h1, fun q hq hA => by rw [h2 q (Nat.lt_of_lt_of_le hq hS.1)]; exact hS.2.1 q hq hA⟩
theorem x_throw3W {as : Array Value} {μ' : Mem} {mc ms is : Nat} {text : String} {v : Option Value} (F : CallFix p m c cc nL s as Ts RX4) (hlt : l.stackTraces = false) (hG : SG x s s.heap) (hP : va_P D vwCl (WL D x μ) H) (hS : va_S (rng x) s.heap H locs) (hx : ∀ z ∈ c.exceptionTable.toList, False) (hlk : meth.locks = false) (hm : μ = μ') (hw1 : Cond.classLink RX4 126 "java/lang/IndexOutOfBoundsException" ∈ Ts) (hw2 : Cond.initialized "java/lang/IndexOutOfBoundsException" ∈ Ts) (hw3 : ∀ w ∈ (vx_atS RX4 130 "java/lang/IndexOutOfBoundsException" ["java/lang/RuntimeException", "java/lang/Exception"]).filter goodWord, w ∈ Ts) (hstr : (is, text) ∈ strs) (hsz : ls.size = nL)
    (d0 : decode cc pc = .ok (.new 126, 3)) (d3 : decode cc (pc + 3) = .ok (.dup, 1)) (d4 : decode cc (pc + 4) = .ok (.ldc_w is, 3)) (d6 : decode cc (pc + 7) = .ok (.invokespecial 130, 3)) (d9 : decode cc (pc + 10) = .ok (.athrow, 1)) (hRf : 5 < R.frames) (hRl : (rest.map fun v => v.category).sum + 82 ≤ R.locals) (hRc : cells + 1 ≤ R.cells) (hRs : slots + 6 ≤ R.slots) (hcc : cells + 1 ≤ mc) (hss : slots + 6 ≤ ms) :
    W p l e R s m as below meth c H locs cells slots (vx_MQ below (QT D x μ' 3 v) (XT D x μ' 3) as s mc ms (rng x)) (F0 m pc ls rest) := by
  obtain ⟨sa, hsa⟩ := hG.2.2.2.2.2.1 _ hstr
  have hwat := at_ok at3_good hw3 F.2.2.2.2 (hG.2.2.2.2.2.2.1 3) hG.2.2.2.2.2.2.2
  refine vx_throwSW (own := RX4) (cls := "java/lang/IndexOutOfBoundsException") (text := text) (names := ["java/lang/RuntimeException", "java/lang/Exception"]) (ik := 126) (is := is) (ic := 130) (sa := sa) (A := rng x) F.1 F.2.1 hlt F.2.2.2.1 (by decide +kernel) (by decide +kernel) (F.2.2.2.2 _ hw1) (F.2.2.2.2 _ hw2) hsa hwat ?_ hG.2.2.2.1 hG.2.2.2.2.1 hS (hsz.trans F.2.2.1.symm) d0 d3 d4 d6 d9 (fun z hz => (hx z hz).elim) hRf hRl hRc hRs hlk (fun t ht h1 h2 => ⟨by decide, rfl, ?_, ?_⟩) hS.2.2 hcc hss
  · intro w hw
    rcases List.mem_cons.mp hw with rfl | hw
    · rfl
    · rcases List.mem_cons.mp hw with rfl | hw
      · rfl
      · exact ot_of (List.all_eq_true.mp at3_good w hw)
  · rw [← hm]
    exact hP.kept (fun k q hk => h2 q.1 (hP k q hk).lt)
  · exact ⟨Nat.le_trans hS.1 h1, fun q hq hA => by rw [h2 q (Nat.lt_of_lt_of_le hq hS.1)]; exact hS.2.1 q hq hA⟩
end TX
theorem cpy_vals {μ : Mem} {i j K z n : Nat} {o g : Row} {qs qd : Nat × Nat × Nat} {od : Nat} (hod : od < 349) (hkd : kd od = qd) (hqd : qd = (K, i, z)) (hqs : qs = (K, j, z)) (hK : 10 ≤ K) (hij : j ≠ i) (ho : μ j = o) (hn : ln qd = n) :
    va_cpy (vals (va_up μ i g) qs) (vals (va_up μ i g) qd) 0 0 n = vals (va_up μ i (cpy K z o g)) qd := by
  subst hqs hqd
  have r1 : rg (K, j, z) = j := by unfold rg; split <;> first | rfl | (exfalso; rename_i h; simp at h; omega)
  have r2 : rg (K, i, z) = i := by unfold rg; split <;> first | rfl | (exfalso; rename_i h; simp at h; omega)
  have l1 : ln (K, j, z) = ln (K, i, z) := rfl
  funext k
  unfold va_cpy
  by_cases hk : k < n
  · rw [if_pos ⟨Nat.zero_le _, by omega⟩]
    have e0 : 0 + (k - 0) = k := by omega
    rw [e0]
    unfold vals
    rw [if_pos (by rw [l1, hn]; exact hk), if_pos (by rw [hn]; exact hk), r1, r2, mu_off _ _ hij, mu_at, ho]
    have h1 := ow_ok od hod (by rw [hkd]; exact hK) k (by rw [hkd, hn]; exact hk)
    rw [hkd] at h1
    have e1 : ix (K, j, z) k = ix (K, i, z) k := rfl
    unfold cpy
    rw [if_pos h1, e1]
  · rw [if_neg (by omega)]
    unfold vals
    rw [if_neg (by rw [hn]; exact hk), if_neg (by rw [hn]; exact hk)]
theorem cpy_set {D : va_G} {x : Nat} {μ : Mem} {i K z : Nat} {o g : Row} {od : Nat} (hod : od < 349) (hkd : kd od = (K, i, z)) (hK : 10 ≤ K) (hi : i < 19) :
    (WL D x (va_up μ i g)).set od (x + od, mk D x (K, i, z) (vals (va_up μ i (cpy K z o g)) (K, i, z))) = WL D x (va_up μ i (cpy K z o g)) := by
  refine WL_set_gen hod hkd fun o2 ho2 hne k hl => ?_
  by_cases hri : rg (kd o2) = i
  · rw [hri, mu_at, mu_at]
    unfold cpy
    have hb := kd_big o2 ho2 (by rw [hri]; exact hi) (by omega)
    have h1 := ow_ok o2 ho2 hb.1 k hl
    rw [if_neg]
    intro h2
    rw [h1] at h2
    injection h2 with a b
    have e : kd o2 = kd od := by
      rw [hkd]
      have c : (kd o2).2.1 = i := hb.2.symm.trans hri
      exact Prod.ext a (Prod.ext c b)
    have v1 := iv_ok o2 ho2 k hl
    have v2 := iv_ok od hod k (by rw [← e]; exact hl)
    rw [e, v2] at v1
    injection v1 with a2 b2
    exact hne a2.symm
  · rw [mu_off _ _ hri, mu_off _ _ hri]
section CP
variable {p : Program} {l : Launch} {e : Env} {R : Room} {s : State} {m : MethodId} {args : Array Value} {below : List Frame} {meth : Method} {c : Code} {H : Heap} {locs : List Loc} {cells slots : Nat} {Q : State → Prop}
variable {cc : ByteArray} {pc : Nat} {ls : Array Slot} {rest : List Value} {D : va_G} {x : Nat} {μ : Mem} {H0 : Heap} {own : String} {Ts : List Cond} {nL : Nat}
/-- System.arraycopy of a whole row of one ground over that of another -/
theorem x_copy (F : CallFix p m c cc nL s args Ts own) (hK : va_K D vwCl (tyX D) s) {i j K z : Nat} (hi : i < 19) (hij : j ≠ i) {g o : Row} (ho : μ j = o) (hP : va_P D vwCl (WL D x (va_up μ i g)) H) (hS : va_S (rng x) H0 H locs) {os od : Nat} (hos : os < 349) (hod : od < 349) (hks : kd os = (K, j, z)) (hkd : kd od = (K, i, z)) (hK10 : 10 ≤ K) {n : Nat}
    (hms : ∀ f, mk D x (K, j, z) f = .inl (D.1 6, (n, .inl f))) (hmd : ∀ f, mk D x (K, i, z) f = .inl (D.1 6, (n, .inl f))) (hn : ln (K, i, z) = n) {nn : Int32} (hnn : nn.toNatClampNeg = n) (hn0 : ¬ nn < 0) {index : Nat}
    (hw1 : Cond.methodLink own index arraycopyName ∈ Ts) (hw2 : Cond.native arraycopyName ∈ Ts) (hw3 : Cond.static arraycopyName ∈ Ts) (hw4 : Cond.initialized "java/lang/System" ∈ Ts) (hsz : ls.size = nL)
    (hframes : 1 ≤ R.frames) (hlocals : (rest.map fun v => v.category).sum + (nativeFrameWords "java/lang/System" "arraycopy" 5 + 11) ≤ R.locals) (hdg : decode cc pc = .ok (.invokestatic index, 3))
    (kk : ∀ (H1 : Heap) (locs1 : List Loc), va_P D vwCl (WL D x (va_up μ i (cpy K z o g))) H1 → va_S (rng x) H0 H1 locs1 → W p l e R s m args below meth c H1 locs1 cells slots Q (F0 m (pc + 3) ls rest)) : W p l e R s m args below meth c H locs cells slots Q (F0 m pc ls (.int nn :: .int 0 :: .ref (x + od) :: .int 0 :: .ref (x + os) :: rest)) := by
  have e0 : (0 : Int32).toNatClampNeg = 0 := rfl
  refine va_copyi F.1 F.2.1 (F.2.2.1.trans hsz.symm) F.2.2.2.1 (F.2.2.2.2 _ hw1) (F.2.2.2.2 _ hw2) (F.2.2.2.2 _ hw3) (F.2.2.2.2 _ hw4) hK hP (WL_D D x _) hS os od 0 0 (n0 := n) (n1 := n) (f := vals (va_up μ i g) (K, j, z)) (g := vals (va_up μ i g) (K, i, z)) (ty := .int) ((WL_at hos hks).trans (by rw [hms])) ((WL_at hod hkd).trans (by rw [hmd])) rfl rfl rfl (by decide) (by decide) hn0 (by rw [e0, hnn]; omega) (by rw [e0, hnn]; omega) (fun _ _ => rfl) hframes hlocals hdg fun H1 locs1 h1 _ h3 => kk H1 locs1 ?_ h3
  rw [e0, hnn, cpy_vals hod hkd rfl rfl hK10 hij ho hn, ← hmd, cpy_set hod hkd hK10 hi] at h1
  exact h1
end CP
