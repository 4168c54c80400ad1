/-- the same of the statics, for any set of cells that may change -/
def SGA (A : Nat → Prop) (U : State) (H : Heap) : Prop :=
  (va_Nw (.fieldLinkNest RX0 128 "FrostTubes" "LEAST_SETTING" "[I" "FrostTubes") U ∧ va_Nw (.fieldLinkNest RX0 131 "FrostTubes" "MOST_SETTING" "[I" "FrostTubes") U) ∧
  (∃ t, va_Z "FrostTubes" "LEAST_SETTING" "[I" (.ref t) A U H ∧ va_T .int t 3 lstV A U H) ∧
  (∃ t, va_Z "FrostTubes" "MOST_SETTING" "[I" (.ref t) A U H ∧ va_T .int t 3 mstV A U H) ∧
  vx_Zq Bundle.tN "UNASSIGNED_STACK" Bundle.steD A U H ∧ vx_Zq Bundle.tN "SUPPRESSED_SENTINEL" Bundle.listD A U H ∧
  (∀ q ∈ strs, ∃ a, vk_R RX4 q.1 q.2 a U) ∧ (∀ k, va_Nw (.castable (exN k) (exN k)) U) ∧ (∀ k, va_Nw (.declares (Bundle.initS (spN k))) U) ∧ ∀ i j, 1 ≤ i → i ≤ 3 → 1 ≤ j → j ≤ 3 → i ≠ j → va_Nc (exN i) (exN j) U
theorem SGA.to {A : Nat → Prop} {s U : State} {H H1 : Heap} (h : SGA A s H) (hW : s.WarmedH U.vm) (hq : ∀ a : Nat, a < H.size → ¬ A a → H1[a]? = H[a]?) : SGA A U H1 := by
  obtain ⟨⟨n1, n2⟩, ⟨t1, z1, y1⟩, ⟨t2, z2, y2⟩, u1, u2, hs, hc, hd, hn⟩ := h
  refine ⟨⟨va_Nw.warmF hW n1, va_Nw.warmF hW n2⟩, ⟨t1, va_Z.moved hW.alike (z1.kept hq), va_T.moved hW.alike (y1.kept hq)⟩, ⟨t2, va_Z.moved hW.alike (z2.kept hq), va_T.moved hW.alike (y2.kept hq)⟩, vx_Zq.moved hW.alike (u1.kept hq), vx_Zq.moved hW.alike (u2.kept hq), fun q hq => ?_, fun k => va_Nw.warmC hW (hc k), fun k => nw_decl hW (hd k), fun i j a b c d e => va_Nc.moved hW.alike (hn i j a b c d e)⟩
  obtain ⟨a, ha⟩ := hs q hq
  exact ⟨a, vk_R.warm hW ha⟩
theorem SGA.sl {A : Nat → Prop} {x : Nat} {U : State} {H : Heap} (h : SGA A U H) (hA : ∀ a, rng x a → A a) : SL x U H := by
  obtain ⟨n, ⟨t1, z1, y1⟩, ⟨t2, z2, y2⟩, u1, u2, hs, hc, hd, hn⟩ := h
  exact ⟨⟨n, ⟨t1, z1.narrow hA, y1.narrow hA⟩, ⟨t2, z2.narrow hA, y2.narrow hA⟩, u1.narrow hA, u2.narrow hA, hs, hc, hd⟩, hn⟩
/-! two objects side by side -/
def rng2 (x y a : Nat) : Prop := rng x a ∨ rng y a
theorem w_keep {D : va_G} {y : Nat} {μ : Mem} {H H1 : Heap} {B : Nat → Prop} (hd : ∀ a, rng y a → ¬ B a) (hP : va_P D vwCl (WL D y μ) H) (hk : ∀ a : Nat, a < H.size → ¬ B a → H1[a]? = H[a]?) : va_P D vwCl (WL D y μ) H1 :=
  hP.kept fun j r hr => hk r.1 (vx_lt hP hr) (hd _ ((WL_D D y μ).2 j r hr))
theorem vm_of {l : Launch} {y : MethodName} {ws ws' : List Cond} {rm : Room} {mc ms : Nat} {as : List Value} {K : State → Prop} {Qx : Array Value → State → Outcome → State → Prop} {fr : Addr → Prop} {cc : ByteArray} {maxL : Nat} {ret : Option FieldType}
    (hy : plainName y.cls = true) (hw : ws = Cond.code y cc maxL ret :: ws') (hn : (lg_sl as).length ≤ maxL)
    (body : ∀ p e s m args below meth c, CallFix p m c cc maxL s args ws y.cls → meth.sig.returnType = ret → meth.locks = false → K s →
      ∀ (ls : Array Slot), lv_has ls maxL (lv_args 0 as) →
      W p l e rm s m args below meth c s.heap [] 0 0 (vx_MQ below Qx XF args s mc ms fr) (F0 m 0 ls [])) : vx_Met l y ws rm (va_Pc as K) Qx XF mc ms fr := by
  refine vx_ofW (cc := cc) (maxL := maxL) (ret := ret) hy hw ?_
  intro p e s m args below meth c s₁ B hml hx hv
  obtain ⟨rfl, hK⟩ := hv
  rw [lg_entry_eq]
  exact body p e s m as.toArray below meth c ⟨B.exec, B.bytes, hml, findClass_of_methodNamed B.named, atoms_spec (ws := ws) B.pre⟩ B.returns B.notSynchronized hK _ (lv_entry as hn)
def KA (D : va_G) (x y : Nat) (μ ν : Mem) (U : State) : Prop := va_P D vwCl (WL D x μ) U.heap ∧ va_P D vwCl (WL D y ν) U.heap ∧ va_K D vwCl (tyX D) U ∧ SGA (rng2 x y) U U.heap
theorem KA.blind {as : List Value} {D : va_G} {x y : Nat} {μ ν : Mem} : FrameBlind (va_Pc as (KA D x y μ ν)) := fun a U g mk h => by
  obtain ⟨q0, qP, qR, qK, qS⟩ := h
  exact ⟨q0, qP, qR, va_K.moved (u := U) (U := U.calling g mk a) (Vm.Alike.refl U.vm) qK, SGA.to (U := U.calling g mk a) qS (State.WarmedH.refl U) (fun _ _ _ => rfl)⟩
def QA (D : va_G) (x y : Nat) (μ ν : Mem) (v : Int32) : Array Value → State → Outcome → State → Prop := fun _ st o t => o = .returned (some (.int v)) ∧ va_P D vwCl (WL D x μ) t.heap ∧ va_P D vwCl (WL D y ν) t.heap ∧ va_F (rng2 x y) st t
section AS
variable {p : Program} {l : Launch} {e : Env} {R : Room} {s : State} {m : MethodId} {args : Array Value} {below : List Frame} {meth : Method} {c : Code} {H : Heap} {locs : List Loc} {cells slots : Nat} {Q : State → Prop}
theorem a_sl {A : Nat → Prop} {z : Nat} (hG : SGA A s s.heap) (hS : va_S A s.heap H locs) (hz : ∀ a, rng z a → A a) : ∀ U : State, U.heap = H → s.WarmedH U.vm → SL z U U.heap := fun U hU hW =>
  SGA.sl (SGA.to hG hW (fun a ha hna => by rw [hU]; exact hS.2.1 a ha hna)) hz
theorem a_sga {A B : Nat → Prop} (hG : SGA A s s.heap) (hS : va_S A s.heap H locs) (hB : ∀ a, B a → A a) : ∀ U : State, U.heap = H → s.WarmedH U.vm → SGA B U U.heap := fun U hU hW => by
  obtain ⟨n, ⟨t1, z1, y1⟩, ⟨t2, z2, y2⟩, u1, u2, hs, hc, hd, hn⟩ := SGA.to hG hW (H1 := U.heap) (fun a ha hna => by rw [hU]; exact hS.2.1 a ha hna)
  exact ⟨n, ⟨t1, z1.narrow hB, y1.narrow hB⟩, ⟨t2, z2.narrow hB, y2.narrow hB⟩, u1.narrow hB, u2.narrow hB, hs, hc, hd, hn⟩
end AS
def rmL_alike : Room := { frames := 11, cells := 2420, slots := 14520, locals := 220 }
theorem hd_L_alike : yL_alike.cls ≠ "java/lang/invoke/MethodHandle" ∧ yL_alike.cls ≠ "java/lang/invoke/VarHandle" ∧ (parseMethodDescriptor yL_alike.desc).map (fun d => d.parameters.length) = some 3 := by decide +kernel
set_option maxHeartbeats 8000000 in
set_option maxRecDepth 100000 in
theorem c_L_alike {l : Launch} (hlt : l.stackTraces = false) {D : va_G} {x y : Nat} (hxy : ∀ a, rng x a → ¬ rng y a) {μ ν : Mem} (a : Int32) (h : PQ μ ν) : ∃ μ' ν', PQ μ' ν' ∧ vx_Met l yL_alike wsB_alike rmL_alike (va_Pc [.ref (x + 0), .ref (y + 0), .int a] (KA D x y μ ν)) (QA D x y μ' ν' 1) XF 2420 14520 (rng2 x y) := by
  have hh := h
  obtain ⟨ρ, r1, r2, _, _⟩ := hh
  obtain ⟨w, hw⟩ := now_ex r1
  have hw' : f_L_now ν = some w := by rw [now_congr (r2.1.1.trans r1.1.1.symm)]; exact hw
  obtain ⟨v1, μ1, ν1, e1, e1', h1⟩ := pq_errorPosition h
  obtain ⟨v2, e2, e2'⟩ := pq_deepest h1
  obtain ⟨w3, μ3, ν3, e3, e3', h3⟩ := pq_goneIn (a - (a / (4 : Int32)) * (4 : Int32)) ((1 : Int32) + (a - (a / (30 : Int32)) * (30 : Int32))) h1
  obtain ⟨w4, μ4, ν4, e4, e4', h4⟩ := pq_simulate a.toInt64 (5 : Int32) h3
  obtain ⟨w5, μ5, ν5, e5, e5', h5⟩ := pq_script (2 : Int32) ((112003700000 : Int64) + (a - (a / (20 : Int32)) * (20 : Int32)).toInt64) h4
  refine ⟨μ5, ν5, h5, vm_of (cc := cL_alike) (maxL := 3) (ret := some .boolean) (by decide +kernel) rfl (Nat.le_of_ble_eq_true rfl) ?_⟩
  intro p e s m args below meth c F hr hlk hKA ls hl
  obtain ⟨hP, hR, hK, hG⟩ := hKA
  have hl : lv_has ls 3 [(0, .ref (x + 0)), (1, .ref (y + 0)), (2, .int a)] := hl
  have hyx : ∀ a, rng y a → ¬ rng x a := fun a h1 h2 => hxy a h2 h1
  have Ax : ∀ a, rng x a → rng2 x y a := fun _ h => Or.inl h
  have Ay : ∀ a, rng y a → rng2 x y a := fun _ h => Or.inr h
  have hS : va_S (rng2 x y) s.heap s.heap [] := va_S.rf
  refine lv_aload_n F.1 F.2.1 dL_alike_0 rfl (lv_at hl 0 rfl) ?_
  refine a_S F hK (a_sl hG hS Ax) Ax hP hS (c_L_now hlt hw) (va_cwS 1 F.2.2.2.2 gB_alike_L_now rfl rfl rfl hd_L_now ⟨(Nat.le_of_ble_eq_true rfl), (Nat.le_of_ble_eq_true rfl)⟩) rfl rfl hl.1 (Nat.le_of_ble_eq_true rfl) dL_alike_1 ⟨(Nat.le_of_ble_eq_true rfl), (Nat.le_of_ble_eq_true rfl)⟩ (rest := []) (fun H locs hP hS hk => ?_)
  have hR := w_keep hyx hR hk
  clear hk
  refine W.eq (g2 := F0 m 4 ls [.long w]) rfl ?_
  refine lv_aload_n F.1 F.2.1 dL_alike_4 rfl (lv_at hl 1 rfl) ?_
  refine a_S F hK (a_sl hG hS Ay) Ay hR hS (c_L_now hlt hw') (va_cwS 1 F.2.2.2.2 gB_alike_L_now rfl rfl rfl hd_L_now ⟨(Nat.le_of_ble_eq_true rfl), (Nat.le_of_ble_eq_true rfl)⟩) rfl rfl hl.1 (Nat.le_of_ble_eq_true rfl) dL_alike_5 ⟨(Nat.le_of_ble_eq_true rfl), (Nat.le_of_ble_eq_true rfl)⟩ (rest := [.long w]) (fun H locs hR hS hk => ?_)
  have hP := w_keep hxy hP hk
  clear hk
  refine W.eq (g2 := F0 m 8 ls [.long w, .long w]) rfl ?_
  refine W.lcmp F.1 F.2.1 dL_alike_8 ?_
  refine lv_if_ne (tgt := 118) F.1 F.2.1 dL_alike_9 rfl (fun hc => absurd (ceq_s w) hc) (fun _ => ?_)
  refine lv_aload_n F.1 F.2.1 dL_alike_12 rfl (lv_at hl 0 rfl) ?_
  refine a_V F hK (a_sl hG hS Ax) Ax hP hS (c_X4_errorPosition e1) (cwV 0 F.2.2.2.2 gB_alike_X4_errorPosition rfl rfl rfl ⟨rfl, hd_X4_errorPosition⟩ ⟨(Nat.le_of_ble_eq_true rfl), (Nat.le_of_ble_eq_true rfl)⟩) rfl rfl hl.1 (Nat.le_of_ble_eq_true rfl) dL_alike_13 ⟨(Nat.le_of_ble_eq_true rfl), (Nat.le_of_ble_eq_true rfl)⟩ (rest := []) (fun H locs hP hS hk => ?_)
  have hR := w_keep hyx hR hk
  clear hk
  refine W.eq (g2 := F0 m 16 ls [.int v1]) rfl ?_
  refine lv_aload_n F.1 F.2.1 dL_alike_16 rfl (lv_at hl 1 rfl) ?_
  refine a_V F hK (a_sl hG hS Ay) Ay hR hS (c_X4_errorPosition e1') (cwV 0 F.2.2.2.2 gB_alike_X4_errorPosition rfl rfl rfl ⟨rfl, hd_X4_errorPosition⟩ ⟨(Nat.le_of_ble_eq_true rfl), (Nat.le_of_ble_eq_true rfl)⟩) rfl rfl hl.1 (Nat.le_of_ble_eq_true rfl) dL_alike_17 ⟨(Nat.le_of_ble_eq_true rfl), (Nat.le_of_ble_eq_true rfl)⟩ (rest := [.int v1]) (fun H locs hR hS hk => ?_)
  have hP := w_keep hxy hP hk
  clear hk
  refine W.eq (g2 := F0 m 20 ls [.int v1, .int v1]) rfl ?_
  refine lv_icmp_ne (tgt := 118) F.1 F.2.1 dL_alike_20 rfl (fun hc => absurd rfl hc) (fun _ => ?_)
  refine lv_aload_n F.1 F.2.1 dL_alike_23 rfl (lv_at hl 0 rfl) ?_
  refine a_V F hK (a_sl hG hS Ax) Ax hP hS (c_X4_deepest e2) (cwV 0 F.2.2.2.2 gB_alike_X4_deepest rfl rfl rfl ⟨rfl, hd_X4_deepest⟩ ⟨(Nat.le_of_ble_eq_true rfl), (Nat.le_of_ble_eq_true rfl)⟩) rfl rfl hl.1 (Nat.le_of_ble_eq_true rfl) dL_alike_24 ⟨(Nat.le_of_ble_eq_true rfl), (Nat.le_of_ble_eq_true rfl)⟩ (rest := []) (fun H locs hP hS hk => ?_)
  have hR := w_keep hyx hR hk
  clear hk
  refine W.eq (g2 := F0 m 27 ls [.int v2]) rfl ?_
  refine lv_aload_n F.1 F.2.1 dL_alike_27 rfl (lv_at hl 1 rfl) ?_
  refine a_V F hK (a_sl hG hS Ay) Ay hR hS (c_X4_deepest e2') (cwV 0 F.2.2.2.2 gB_alike_X4_deepest rfl rfl rfl ⟨rfl, hd_X4_deepest⟩ ⟨(Nat.le_of_ble_eq_true rfl), (Nat.le_of_ble_eq_true rfl)⟩) rfl rfl hl.1 (Nat.le_of_ble_eq_true rfl) dL_alike_28 ⟨(Nat.le_of_ble_eq_true rfl), (Nat.le_of_ble_eq_true rfl)⟩ (rest := [.int v2]) (fun H locs hR hS hk => ?_)
  have hP := w_keep hxy hP hk
  clear hk
  refine W.eq (g2 := F0 m 31 ls [.int v2, .int v2]) rfl ?_
  refine lv_icmp_ne (tgt := 118) F.1 F.2.1 dL_alike_31 rfl (fun hc => absurd rfl hc) (fun _ => ?_)
  refine lv_aload_n F.1 F.2.1 dL_alike_34 rfl (lv_at hl 0 rfl) ?_
  refine lv_iload_n F.1 F.2.1 dL_alike_35 rfl (lv_at hl 2 rfl) ?_
  refine lv_iconst (v := (4 : Int32)) F.1 F.2.1 dL_alike_36 (by decide) ?_
  refine lv_irem F.1 F.2.1 dL_alike_37 (by decide) ?_
  refine lv_iconst (v := (1 : Int32)) F.1 F.2.1 dL_alike_38 (by decide) ?_
  refine lv_iload_n F.1 F.2.1 dL_alike_39 rfl (lv_at hl 2 rfl) ?_
  refine lv_bipush (v := (30 : Int32)) F.1 F.2.1 dL_alike_40 (by decide) ?_
  refine lv_irem F.1 F.2.1 dL_alike_42 (by decide) ?_
  refine lv_iadd F.1 F.2.1 dL_alike_43 ?_
  refine a_H F hK (a_sl hG hS Ax) Ax hP hS (c_L_goneIn hlt _ _ e3) (vx_cwSW 3 F.2.2.2.2 gB_alike_L_goneIn rfl rfl rfl hd_L_goneIn ⟨(Nat.le_of_ble_eq_true rfl), (Nat.le_of_ble_eq_true rfl)⟩) rfl rfl hl.1 (Nat.le_of_ble_eq_true rfl) dL_alike_44 ⟨(Nat.le_of_ble_eq_true rfl), (Nat.le_of_ble_eq_true rfl)⟩ (rest := []) (fun H locs hP hS hk => ?_)
  have hR := w_keep hyx hR hk
  clear hk
  refine W.eq (g2 := F0 m 47 ls [.long w3]) rfl ?_
  refine lv_aload_n F.1 F.2.1 dL_alike_47 rfl (lv_at hl 1 rfl) ?_
  refine lv_iload_n F.1 F.2.1 dL_alike_48 rfl (lv_at hl 2 rfl) ?_
  refine lv_iconst (v := (4 : Int32)) F.1 F.2.1 dL_alike_49 (by decide) ?_
  refine lv_irem F.1 F.2.1 dL_alike_50 (by decide) ?_
  refine lv_iconst (v := (1 : Int32)) F.1 F.2.1 dL_alike_51 (by decide) ?_
  refine lv_iload_n F.1 F.2.1 dL_alike_52 rfl (lv_at hl 2 rfl) ?_
  refine lv_bipush (v := (30 : Int32)) F.1 F.2.1 dL_alike_53 (by decide) ?_
  refine lv_irem F.1 F.2.1 dL_alike_55 (by decide) ?_
  refine lv_iadd F.1 F.2.1 dL_alike_56 ?_
  refine a_H F hK (a_sl hG hS Ay) Ay hR hS (c_L_goneIn hlt _ _ e3') (vx_cwSW 3 F.2.2.2.2 gB_alike_L_goneIn rfl rfl rfl hd_L_goneIn ⟨(Nat.le_of_ble_eq_true rfl), (Nat.le_of_ble_eq_true rfl)⟩) rfl rfl hl.1 (Nat.le_of_ble_eq_true rfl) dL_alike_57 ⟨(Nat.le_of_ble_eq_true rfl), (Nat.le_of_ble_eq_true rfl)⟩ (rest := [.long w3]) (fun H locs hR hS hk => ?_)
  have hP := w_keep hxy hP hk
  clear hk
  refine W.eq (g2 := F0 m 60 ls [.long w3, .long w3]) rfl ?_
  refine W.lcmp F.1 F.2.1 dL_alike_60 ?_
  refine lv_if_ne (tgt := 118) F.1 F.2.1 dL_alike_61 rfl (fun hc => absurd (ceq_s w3) hc) (fun _ => ?_)
  refine lv_aload_n F.1 F.2.1 dL_alike_64 rfl (lv_at hl 0 rfl) ?_
  refine lv_iload_n F.1 F.2.1 dL_alike_65 rfl (lv_at hl 2 rfl) ?_
  refine lv_i2l (v := a.toInt64) F.1 F.2.1 dL_alike_66 rfl ?_
  refine lv_iconst (v := (5 : Int32)) F.1 F.2.1 dL_alike_67 (by decide) ?_
  refine a_H F hK (a_sl hG hS Ax) Ax hP hS (c_L_simulate hlt _ _ e4) (vx_cwSW 3 F.2.2.2.2 gB_alike_L_simulate rfl rfl rfl hd_L_simulate ⟨(Nat.le_of_ble_eq_true rfl), (Nat.le_of_ble_eq_true rfl)⟩) rfl rfl hl.1 (Nat.le_of_ble_eq_true rfl) dL_alike_68 ⟨(Nat.le_of_ble_eq_true rfl), (Nat.le_of_ble_eq_true rfl)⟩ (rest := []) (fun H locs hP hS hk => ?_)
  have hR := w_keep hyx hR hk
  clear hk
  refine W.eq (g2 := F0 m 71 ls [.long w4]) rfl ?_
  refine lv_aload_n F.1 F.2.1 dL_alike_71 rfl (lv_at hl 1 rfl) ?_
  refine lv_iload_n F.1 F.2.1 dL_alike_72 rfl (lv_at hl 2 rfl) ?_
  refine lv_i2l (v := a.toInt64) F.1 F.2.1 dL_alike_73 rfl ?_
  refine lv_iconst (v := (5 : Int32)) F.1 F.2.1 dL_alike_74 (by decide) ?_
  refine a_H F hK (a_sl hG hS Ay) Ay hR hS (c_L_simulate hlt _ _ e4') (vx_cwSW 3 F.2.2.2.2 gB_alike_L_simulate rfl rfl rfl hd_L_simulate ⟨(Nat.le_of_ble_eq_true rfl), (Nat.le_of_ble_eq_true rfl)⟩) rfl rfl hl.1 (Nat.le_of_ble_eq_true rfl) dL_alike_75 ⟨(Nat.le_of_ble_eq_true rfl), (Nat.le_of_ble_eq_true rfl)⟩ (rest := [.long w4]) (fun H locs hR hS hk => ?_)
  have hP := w_keep hxy hP hk
  clear hk
  refine W.eq (g2 := F0 m 78 ls [.long w4, .long w4]) rfl ?_
  refine W.lcmp F.1 F.2.1 dL_alike_78 ?_
  refine lv_if_ne (tgt := 118) F.1 F.2.1 dL_alike_79 rfl (fun hc => absurd (ceq_s w4) hc) (fun _ => ?_)
  refine lv_aload_n F.1 F.2.1 dL_alike_82 rfl (lv_at hl 0 rfl) ?_
  refine lv_iconst (v := (2 : Int32)) F.1 F.2.1 dL_alike_83 (by decide) ?_
  refine lv_ldc2 (v := (112003700000 : Int64)) F.1 F.2.1 F.2.2.2.1 (F.2.2.2.2 _ (List.mem_of_getElem? (i := 73) rfl)) dL_alike_84 ?_
  refine lv_iload_n F.1 F.2.1 dL_alike_87 rfl (lv_at hl 2 rfl) ?_
  refine lv_bipush (v := (20 : Int32)) F.1 F.2.1 dL_alike_88 (by decide) ?_
  refine lv_irem F.1 F.2.1 dL_alike_90 (by decide) ?_
  refine lv_i2l (v := (a - (a / (20 : Int32)) * (20 : Int32)).toInt64) F.1 F.2.1 dL_alike_91 rfl ?_
  refine lv_ladd F.1 F.2.1 dL_alike_92 ?_
  refine a_H F hK (a_sl hG hS Ax) Ax hP hS (c_L_script hlt _ _ e5) (vx_cwSW 3 F.2.2.2.2 gB_alike_L_script rfl rfl rfl hd_L_script ⟨(Nat.le_of_ble_eq_true rfl), (Nat.le_of_ble_eq_true rfl)⟩) rfl rfl hl.1 (Nat.le_of_ble_eq_true rfl) dL_alike_93 ⟨(Nat.le_of_ble_eq_true rfl), (Nat.le_of_ble_eq_true rfl)⟩ (rest := []) (fun H locs hP hS hk => ?_)
  have hR := w_keep hyx hR hk
  clear hk
  refine W.eq (g2 := F0 m 96 ls [.long w5]) rfl ?_
  refine lv_aload_n F.1 F.2.1 dL_alike_96 rfl (lv_at hl 1 rfl) ?_
  refine lv_iconst (v := (2 : Int32)) F.1 F.2.1 dL_alike_97 (by decide) ?_
  refine lv_ldc2 (v := (112003700000 : Int64)) F.1 F.2.1 F.2.2.2.1 (F.2.2.2.2 _ (List.mem_of_getElem? (i := 73) rfl)) dL_alike_98 ?_
  refine lv_iload_n F.1 F.2.1 dL_alike_101 rfl (lv_at hl 2 rfl) ?_
  refine lv_bipush (v := (20 : Int32)) F.1 F.2.1 dL_alike_102 (by decide) ?_
  refine lv_irem F.1 F.2.1 dL_alike_104 (by decide) ?_
  refine lv_i2l (v := (a - (a / (20 : Int32)) * (20 : Int32)).toInt64) F.1 F.2.1 dL_alike_105 rfl ?_
  refine lv_ladd F.1 F.2.1 dL_alike_106 ?_
  refine a_H F hK (a_sl hG hS Ay) Ay hR hS (c_L_script hlt _ _ e5') (vx_cwSW 3 F.2.2.2.2 gB_alike_L_script rfl rfl rfl hd_L_script ⟨(Nat.le_of_ble_eq_true rfl), (Nat.le_of_ble_eq_true rfl)⟩) rfl rfl hl.1 (Nat.le_of_ble_eq_true rfl) dL_alike_107 ⟨(Nat.le_of_ble_eq_true rfl), (Nat.le_of_ble_eq_true rfl)⟩ (rest := [.long w5]) (fun H locs hR hS hk => ?_)
  have hP := w_keep hxy hP hk
  clear hk
  refine W.eq (g2 := F0 m 110 ls [.long w5, .long w5]) rfl ?_
  refine W.lcmp F.1 F.2.1 dL_alike_110 ?_
  refine lv_if_ne (tgt := 118) F.1 F.2.1 dL_alike_111 rfl (fun hc => absurd (ceq_s w5) hc) (fun _ => ?_)
  refine lv_iconst (v := (1 : Int32)) F.1 F.2.1 dL_alike_114 (by decide) ?_
  refine lv_goto (tgt := 119) F.1 F.2.1 dL_alike_115 rfl ?_
  exact W.widen (Nat.le_of_ble_eq_true rfl) (Nat.le_of_ble_eq_true rfl) (vx_ret (W.zret (v := 1) (ty := .boolean) F.1 F.2.1 hr rfl (fun t ht hW => ⟨rfl, by rw [ht]; exact hP, by rw [ht]; exact hR, hS.F ht⟩) hS.2.2 dL_alike_119 hlk))
