/-! the law's helpers: one call of the class, its exception caught, its answer put into the law's row of one long -/
def oF (w : Int64) : Nat → Int64 := fun j => if j = 0 then w else 0
def oC (D : va_G) (q : Nat) (w : Int64) : va_W := [(q, .inl (D.1 10, (1, .inr (.inl (oF w)))))]
def WO (D : va_G) (x : Nat) (μ : Mem) (q : Nat) (w : Int64) : va_W := WL D x μ ++ oC D q w
def rngL (x q a : Nat) : Prop := rng x a ∨ a = q
theorem WO_D (D : va_G) {x : Nat} (μ : Mem) {q : Nat} (w : Int64) (hq : ¬ rng x q) : va_D (rngL x q) (WO D x μ q w) := by
  refine va_D.app ((WL_D D x μ).weaken fun _ _ _ h => Or.inl h) ⟨fun i j p r hi hj _ => ?_, fun k r hk => ?_⟩ (fun i j p r hi hj e => ?_)
  · have h1 : i < 1 := (List.getElem?_eq_some_iff.mp hi).1
    have h2 : j < 1 := (List.getElem?_eq_some_iff.mp hj).1
    omega
  · have h1 : k < 1 := (List.getElem?_eq_some_iff.mp hk).1
    have h2 : k = 0 := by omega
    subst h2
    cases hk
    exact Or.inr rfl
  · have h1 : j < 1 := (List.getElem?_eq_some_iff.mp hj).1
    have h2 : j = 0 := by omega
    subst h2
    cases hj
    have h3 := (WL_D D x μ).2 i p hi
    rw [e] at h3
    exact hq h3
theorem WO_l {D : va_G} {x : Nat} {μ : Mem} {q : Nat} {w : Int64} {H : Heap} (h : va_P D vwCl (WO D x μ q w) H) : va_P D vwCl (WL D x μ) H := fun i r hi => h i r (by rw [WO, List.getElem?_append_left (List.getElem?_eq_some_iff.mp hi).1]; exact hi)
theorem WO_r {D : va_G} {x : Nat} {μ : Mem} {q : Nat} {w : Int64} {H : Heap} (h : va_P D vwCl (WO D x μ q w) H) : va_P D vwCl (oC D q w) H := fun i r hi => h (349 + i) r (by rw [WO, List.getElem?_append_right (by rw [WL_len]; omega), WL_len, show 349 + i - 349 = i by omega]; exact hi)
theorem WO_lt {D : va_G} {x : Nat} {μ : Mem} {q : Nat} {w : Int64} {H : Heap} (h : va_P D vwCl (WO D x μ q w) H) : q < H.size := (WO_r h 0 (q, .inl (D.1 10, (1, .inr (.inl (oF w))))) rfl).lt
theorem WO_of {D : va_G} {x : Nat} {μ : Mem} {q : Nat} {w : Int64} {H : Heap} (h : va_P D vwCl (WL D x μ) H) (h2 : va_P D vwCl (oC D q w) H) : va_P D vwCl (WO D x μ q w) H := va_P.app h h2
theorem WO_at (D : va_G) (x : Nat) (μ : Mem) (q : Nat) (w : Int64) : (WO D x μ q w)[349]? = some (q, .inl (D.1 10, (1, .inr (.inl (oF w))))) := by
  rw [WO, List.getElem?_append_right (by rw [WL_len]; omega), WL_len]
  rfl
theorem WO_set (D : va_G) (x : Nat) (μ : Mem) (q : Nat) (w v : Int64) : (WO D x μ q w).set 349 (q, .inl (D.1 10, (1, .inr (.inl (vp_updL (oF w) 0 v))))) = WO D x μ q v := by
  rw [WO, List.set_append_right _ _ (by rw [WL_len]; omega), WL_len]
  show WL D x μ ++ [(q, .inl (D.1 10, (1, .inr (.inl (vp_updL (oF w) 0 v)))))] = _
  have e : vp_updL (oF w) 0 v = oF v := by
    funext j
    unfold vp_updL oF
    by_cases h : j = 0 <;> simp [h]
  rw [e]
  rfl
def SL (x : Nat) (U : State) (H : Heap) : Prop := SG x U H ∧ ∀ i j, 1 ≤ i → i ≤ 3 → 1 ≤ j → j ≤ 3 → i ≠ j → va_Nc (exN i) (exN j) U
theorem SL.to {x : Nat} {s U : State} {H H1 : Heap} (h : SL x s H) (hW : s.WarmedH U.vm) (hq : ∀ a : Nat, a < H.size → ¬ rng x a → H1[a]? = H[a]?) : SL x U H1 := ⟨h.1.to hW hq, fun i j a b c d e => va_Nc.moved hW.alike (h.2 i j a b c d e)⟩
def KL (D : va_G) (x : Nat) (μ : Mem) (q : Nat) (w : Int64) (U : State) : Prop := va_P D vwCl (WO D x μ q w) U.heap ∧ va_K D vwCl (tyX D) U ∧ SL x U U.heap
theorem KL.blind {as : List Value} {D : va_G} {x : Nat} {μ : Mem} {q : Nat} {w : Int64} : FrameBlind (va_Pc as (KL D x μ q w)) := fun a U g mk h => by
  obtain ⟨q0, qP, qK, qS⟩ := h
  exact ⟨q0, qP, va_K.moved (u := U) (U := U.calling g mk a) (Vm.Alike.refl U.vm) qK, SL.to (U := U.calling g mk a) qS (State.WarmedH.refl U) (fun _ _ _ => rfl)⟩
def QL (D : va_G) (x : Nat) (μ : Mem) (q : Nat) (w : Int64) (v : Int32) : Array Value → State → Outcome → State → Prop := fun _ st o t => o = .returned (some (.int v)) ∧ va_P D vwCl (WO D x μ q w) t.heap ∧ va_F (rngL x q) st t
def XF : String → State → State → Prop := fun _ _ _ => False
def LX (l : Launch) (y : MethodName) (ws : List Cond) (rm : Room) (mc ms : Nat) (as : List Value) (D : va_G) (x : Nat) (μ : Mem) (q : Nat) (w : Int64) (v : Int32) (μ' : Mem) (w' : Int64) : Prop := vx_Met l y ws rm (va_Pc as (KL D x μ q w)) (QL D x μ' q w' v) XF mc ms (rngL x q)
theorem LX.of {l : Launch} {y : MethodName} {ws ws' : List Cond} {rm : Room} {mc ms : Nat} {as : List Value} {D : va_G} {x : Nat} {μ μ' : Mem} {q : Nat} {w w' : Int64} {v : Int32} {cc : ByteArray} {maxL : Nat} {hh : List (Nat × Nat × Nat × Nat)}
    (hy : plainName y.cls = true) (hw : ws = Cond.codeWith y cc maxL (some .int) hh :: ws') (hn : (lg_sl as).length ≤ maxL)
    (body : ∀ p e s m args below meth c, CallFix p m c cc maxL s args ws y.cls → meth.sig.returnType = some .int → meth.locks = false → c.exceptionTable.toList = tableOf hh → va_K D vwCl (tyX D) s → SL x s s.heap →
      ∀ (ls : Array Slot), lv_has ls maxL (lv_args 0 as) → va_P D vwCl (WO D x μ q w) s.heap →
      W p l e rm s m args below meth c s.heap [] 0 0 (vx_MQ below (QL D x μ' q w' v) XF args s mc ms (rngL x q)) (F0 m 0 ls [])) : LX l y ws rm mc ms as D x μ q w v μ' w' := by
  refine vx_ofWH (cc := cc) (maxL := maxL) (ret := some .int) (hh := hh) hy hw ?_
  intro p e s m args below meth c s₁ B hml hv
  obtain ⟨rfl, hP, hK, hG⟩ := hv
  rw [lg_entry_eq]
  have hts := atoms_spec (ws := ws) B.pre
  exact body p e s m as.toArray below meth c ⟨B.exec, B.bytes, hml, findClass_of_methodNamed B.named, hts⟩ B.returns B.notSynchronized (vx_table (x := y) B (hts _ (by rw [hw]; exact List.mem_cons_self))) hK hG _ (lv_entry as hn) hP
/-- the same of the statics, for any set of cells that may change -/
def SGA (A : Nat → Prop) (U : State) (H : Heap) : Prop :=
  (va_Nw (.fieldLinkNest RX0 128 "FrostTubes" "LEAST_SETTING" "[I" "FrostTubes") U ∧ va_Nw (.fieldLinkNest RX0 131 "FrostTubes" "MOST_SETTING" "[I" "FrostTubes") U) ∧
  (∃ t, va_Z "FrostTubes" "LEAST_SETTING" "[I" (.ref t) A U H ∧ va_T .int t 3 lstV A U H) ∧
  (∃ t, va_Z "FrostTubes" "MOST_SETTING" "[I" (.ref t) A U H ∧ va_T .int t 3 mstV A U H) ∧
  vx_Zq Bundle.tN "UNASSIGNED_STACK" Bundle.steD A U H ∧ vx_Zq Bundle.tN "SUPPRESSED_SENTINEL" Bundle.listD A U H ∧
  (∀ q ∈ strs, ∃ a, vk_R RX4 q.1 q.2 a U) ∧ (∀ k, va_Nw (.castable (exN k) (exN k)) U) ∧ (∀ k, va_Nw (.declares (Bundle.initS (spN k))) U) ∧ ∀ i j, 1 ≤ i → i ≤ 3 → 1 ≤ j → j ≤ 3 → i ≠ j → va_Nc (exN i) (exN j) U
theorem SGA.to {A : Nat → Prop} {s U : State} {H H1 : Heap} (h : SGA A s H) (hW : s.WarmedH U.vm) (hq : ∀ a : Nat, a < H.size → ¬ A a → H1[a]? = H[a]?) : SGA A U H1 := by
  obtain ⟨⟨n1, n2⟩, ⟨t1, z1, y1⟩, ⟨t2, z2, y2⟩, u1, u2, hs, hc, hd, hn⟩ := h
  refine ⟨⟨va_Nw.warmF hW n1, va_Nw.warmF hW n2⟩, ⟨t1, va_Z.moved hW.alike (z1.kept hq), va_T.moved hW.alike (y1.kept hq)⟩, ⟨t2, va_Z.moved hW.alike (z2.kept hq), va_T.moved hW.alike (y2.kept hq)⟩, vx_Zq.moved hW.alike (u1.kept hq), vx_Zq.moved hW.alike (u2.kept hq), fun q hq => ?_, fun k => va_Nw.warmC hW (hc k), fun k => nw_decl hW (hd k), fun i j a b c d e => va_Nc.moved hW.alike (hn i j a b c d e)⟩
  obtain ⟨a, ha⟩ := hs q hq
  exact ⟨a, vk_R.warm hW ha⟩
theorem SGA.sl {A : Nat → Prop} {x : Nat} {U : State} {H : Heap} (h : SGA A U H) (hA : ∀ a, rng x a → A a) : SL x U H := by
  obtain ⟨n, ⟨t1, z1, y1⟩, ⟨t2, z2, y2⟩, u1, u2, hs, hc, hd, hn⟩ := h
  exact ⟨⟨n, ⟨t1, z1.narrow hA, y1.narrow hA⟩, ⟨t2, z2.narrow hA, y2.narrow hA⟩, u1.narrow hA, u2.narrow hA, hs, hc, hd⟩, hn⟩
section LR
variable {p : Program} {l : Launch} {e : Env} {R : Room} {s : State} {m : MethodId} {args : Array Value} {below : List Frame} {meth : Method} {c : Code} {H : Heap} {locs : List Loc} {cells slots : Nat} {Q : State → Prop}
variable {cc : ByteArray} {pc : Nat} {ls : Array Slot} {rest : List Value} {D : va_G} {x q : Nat} {μ : Mem} {w : Int64} {H0 : Heap} {own : String} {Ts : List Cond} {nL : Nat}
theorem l_call {μ' : Mem} {k mc ms : Nat} {v : Int32} {st0 : List Value} {a : Array Value} (hr : vx_Run p l e R s m args below meth c H locs cells slots mc ms (F0 m pc ls st0) rest (QT D x μ' k (some (.int v)) a) (XT D x μ' k) (rng x)) (hq : ¬ rng x q) (hP : va_P D vwCl (WO D x μ q w) H) (hS : va_S (rngL x q) H0 H locs)
    (kn : k = 0 → ∀ (H1 : Heap) (locs1 : List Loc), va_P D vwCl (WO D x μ' q w) H1 → va_S (rngL x q) H0 H1 locs1 → W p l e R s m args below meth c H1 locs1 (cells + mc) (slots + ms) Q (F0 m (pc + 3) ls (.int v :: rest)))
    (kt : k ≠ 0 → ∀ (H1 : Heap) (locs1 : List Loc) (q9 : Addr) (ce : Cell), va_P D vwCl (WO D x μ' q w) H1 → va_S (rngL x q) H0 H1 locs1 → H1[q9]? = some ce → ce.vm = .none → s.vm.findClass (exN k) = some ce.cls → vx_W p l e R s m args below meth c H1 locs1 (cells + mc) (slots + ms) Q (F0 m pc ls rest) q9) : W p l e R s m args below meth c H locs cells slots Q (F0 m pc ls st0) := by
  have hlt := WO_lt hP
  have keep : ∀ {t T' : State} {st₀ : State} {L : List Loc}, st₀.heap = H → T'.heap = t.heap → va_P D vwCl (WL D x μ') t.heap → va_F (rng x) st₀ t → (∀ z ∈ L, rng x z.base) → va_P D vwCl (WO D x μ' q w) T'.heap ∧ va_S (rngL x q) H0 T'.heap (locs ++ L) := by
    intro t T' st₀ L h0 e1 hb hF hL
    obtain ⟨j1, j2, j3⟩ := vx_keep (A0 := rngL x q) (A1 := rng x) h0 e1 hS (fun q _ h => Or.inl h) (fun q h => Or.inl h) (free := rng x) hL hF
    refine ⟨WO_of (by rw [e1]; exact hb) ((WO_r hP).kept fun i r hi => ?_), j3⟩
    have h1 : i < 1 := (List.getElem?_eq_some_iff.mp hi).1
    have h2 : i = 0 := by omega
    subst h2
    cases hi
    exact j2 q hlt hq
  intro T hT X
  rcases hr T hT X with ⟨v2, st₀, t, T', L, h0, X', hL, e1, e2, ⟨hk0, hv, hb, hF⟩, st⟩ | ⟨q9, st₀, t, T', L, E, ce, h0, X', hL, e1, e2, ⟨hk0, hE, hb, hF⟩, hce, hcv, hcl, st⟩
  · cases hv
    obtain ⟨g1, g2⟩ := keep h0 e1 hb hF hL
    obtain ⟨t2, a1, b1⟩ := kn hk0 T'.heap (locs ++ L) g1 g2 T' rfl X'
    exact ⟨t2, st t2 a1, b1⟩
  · obtain ⟨g1, g2⟩ := keep h0 e1 hb hF hL
    subst hE
    obtain ⟨t2, a1, b1⟩ := kt hk0 T'.heap (locs ++ L) q9 ce g1 g2 (by rw [e1]; exact hce) hcv hcl T' rfl X'
    exact ⟨t2, st.trans a1, b1⟩
theorem l_callV (F : CallFix p m c cc nL s args Ts own) (hK : va_K D vwCl (tyX D) s) (hL : SL x s s.heap) (hq : ¬ rng x q) (hP : va_P D vwCl (WO D x μ q w) s.heap)
    {y : MethodName} {ws : List Cond} {rm : Room} {As : List Value} {μ' : Mem} {k mc ms : Nat} {v : Int32} {index n maxL : Nat} {bytes : ByteArray} {ret : Option FieldType} (hM : TX l y ws rm mc ms (.ref (x + 0) :: As) D x μ k (some (.int v)) μ') (cw : CallW R s args own RX4 index y bytes maxL ret ws rm mc ms n) (hn : As.length = n) {st : List Value} (hst : st = As.reverse ++ .ref (x + 0) :: rest) (hsz : ls.size = nL)
    (hW : (rest.map fun v => v.category).sum ≤ 8) (hdg : decode cc pc = .ok (.invokevirtual index, 3)) (hf : cells + mc ≤ R.cells ∧ slots + ms ≤ R.slots)
    (kn : k = 0 → ∀ (H1 : Heap) (locs1 : List Loc), va_P D vwCl (WO D x μ' q w) H1 → va_S (rngL x q) s.heap H1 locs1 → W p l e R s m args below meth c H1 locs1 (cells + mc) (slots + ms) Q (F0 m (pc + 3) ls (.int v :: rest)))
    (kt : k ≠ 0 → ∀ (H1 : Heap) (locs1 : List Loc) (q9 : Addr) (ce : Cell), va_P D vwCl (WO D x μ' q w) H1 → va_S (rngL x q) s.heap H1 locs1 → H1[q9]? = some ce → ce.vm = .none → s.vm.findClass (exN k) = some ce.cls → vx_W p l e R s m args below meth c H1 locs1 (cells + mc) (slots + ms) Q (F0 m pc ls rest) q9) : W p l e R s m args below meth c s.heap [] cells slots Q (F0 m pc ls st) := by
  refine l_call (vx_runV (g := F0 m pc ls st) F hM cw ⟨KX.blind, x_recv hK (WO_l hP) (o := 0) (by decide) (q := (0, 0, 0)) rfl (ci := 4) (fun _ => rfl) rfl, fun U hU hW => ⟨rfl, by rw [hU]; exact WO_l hP, va_K.moved hW.alike hK, by rw [hU]; exact hL.1.to hW (fun _ _ _ => rfl)⟩⟩ rfl hn hsz hst (by show 2 * 0 + _ ≤ 8; omega) hdg hf) hq hP va_S.rf kn kt
theorem l_last (F : CallFix p m c cc nL s args Ts own) (hK : va_K D vwCl (tyX D) s) (hq : ¬ rng x q) (hP : va_P D vwCl (WO D x μ q w) H) (hS : va_S (rngL x q) H0 H locs) {v : Int64} (hdg : decode cc pc = .ok (.lastore, 1))
    (kk : ∀ (H1 : Heap) (locs1 : List Loc), va_P D vwCl (WO D x μ q v) H1 → va_S (rngL x q) H0 H1 locs1 → W p l e R s m args below meth c H1 locs1 cells slots Q (F0 m (pc + 1) ls rest)) : W p l e R s m args below meth c H locs cells slots Q (F0 m pc ls (.long v :: .int 0 :: .ref q :: rest)) := by
  refine va_last F.1 F.2.1 hK hP (WO_D D μ w hq) hS 349 4 (WO_at D x μ q w) rfl (i := nI 0) (vp_in_nI (by omega) (by omega)) hdg fun H1 locs1 h1 _ h3 => kk H1 locs1 ?_ h3
  have e : (nI 0).toNatClampNeg = 0 := rfl
  rw [e, WO_set] at h1
  exact h1
theorem l_iret {as : Array Value} {v : Int32} {mc ms : Nat} (F : CallFix p m c cc nL s as Ts own) (hr : meth.sig.returnType = some .int) (hlk : meth.locks = false) (hP : va_P D vwCl (WO D x μ q w) H) (hS : va_S (rngL x q) s.heap H locs) (hc : cells ≤ mc) (hs : slots ≤ ms) (hdg : decode cc pc = .ok (.ireturn, 1)) :
    W p l e R s m as below meth c H locs cells slots (vx_MQ below (QL D x μ q w v) XF as s mc ms (rngL x q)) (F0 m pc ls [.int v]) :=
  W.widen hc hs (vx_ret (W.iret (v := v) F.1 F.2.1 hr (fun t ht hW => ⟨rfl, by rw [ht]; exact hP, hS.F ht⟩) hS.2.2 hdg hlk))
end LR
