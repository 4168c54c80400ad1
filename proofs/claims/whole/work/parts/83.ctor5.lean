/-! the reference's constructor: like the class's, but for its end, where its own method fills the present row -/
section NM
variable {p : Program} {l : Launch} {e : Env} {R : Room} {s : State} {m : MethodId} {args : Array Value} {below : List Frame} {meth : Method} {c : Code} {H : Heap} {locs : List Loc} {cells slots : Nat} {Q : State → Prop}
variable {cc : ByteArray} {pc : Nat} {ls : Array Slot} {rest : List Value} {D : va_G} {b : Nat} {H0 : Heap} {own : String} {Ts : List Cond} {nL : Nat}
theorem n_callM {A : Nat → Prop} {ν ν' : Mem} (F : CallFix p m c cc nL s args Ts own) (hK : va_K D vwCl (tyX D) s) (hP : va_P D vwCl (WM D b ν) H) (hS : va_S A H0 H locs) (hA : ∀ q, rngM b q → A q)
    {yn : MethodName} {ws : List Cond} {rm : Room} {As : List Value} {v : Option Value} {index n maxL : Nat} {bytes : ByteArray} {ret : Option FieldType} (hM : CM l yn ws rm As D b ν v ν') (cw : CallB R s args own index yn bytes maxL ret ws rm 0 0 n ∧ (Cond.static yn).before args s = true) (hn : As.length = n) {st : List Value} (hst : st = As.reverse ++ rest) (hsz : ls.size = nL)
    (hW : (rest.map fun v => v.category).sum ≤ 8) (hdg : decode cc pc = .ok (.invokestatic index, 3)) (hf : cells ≤ R.cells ∧ slots ≤ R.slots) (kk : ∀ (H1 : Heap) (locs1 : List Loc), H.size ≤ H1.size → va_P D vwCl (WM D b ν') H1 → va_S A H0 H1 locs1 → W p l e R s m args below meth c H1 locs1 cells slots Q (F0 m (pc + 3) ls (v.toList ++ rest))) : W p l e R s m args below meth c H locs cells slots Q (F0 m pc ls st) := by
  have hr := va_runS (As := As) (rest := rest) (H := H) (locs := locs) (cells := cells) (slots := slots) (p := p) (l := l) (e := e) (R := R) (below := below) (meth := meth) (g := F0 m pc ls st) F hM cw ⟨KM.blind, fun U hU hW => ⟨rfl, by rw [hU]; exact hP, va_K.moved hW.alike hK⟩⟩ rfl hn hsz hst (by show 2 * 0 + _ ≤ 8; omega) hdg hf
  intro T hT X
  obtain ⟨v2, st₀, t, T', L, h0, X', hL, e1, e2, ⟨hv, hb, hF⟩, st⟩ := hr T hT X
  cases hv
  obtain ⟨k1, k2, k3⟩ := vx_keep (A0 := A) (A1 := rngM b) h0 e1 hS (fun q _ h => hA q h) (fun q h => hA q h) hL hF
  obtain ⟨t2, a1, b1⟩ := kk T'.heap (locs ++ L) k1 (by rw [e1]; exact hb) k3 T' rfl X'
  exact ⟨t2, st t2 a1, b1⟩
end NM
def nz : Mem := fun _ _ => 0
theorem valsM_z (o : Nat) : valsM nz o = fun _ => 0 := by
  funext j
  unfold valsM nz
  split <;> rfl
theorem WM_z (D : va_G) (b : Nat) : WM D b nz = sq b 0 ([.inr (5, [.int 0, .ref (b + 1), .ref (b + 2), .ref (b + 3), .ref (b + 4), .int 0, .ref (b + 5), .ref (b + 6), .ref (b + 7), .int 0, .int 0, .int 0, .int 0])] ++ [.inl (D.1 6, (205, .inl (fun _ => 0)))] ++ [.inl (D.1 6, (205, .inl (fun _ => 0)))] ++ [.inl (D.1 6, (205, .inl (fun _ => 0)))] ++ [.inl (D.1 6, (2870, .inl (fun _ => 0)))] ++ [.inl (D.1 6, (410, .inl (fun _ => 0)))] ++ [.inl (D.1 7, (2, .inl (fun _ => 0)))] ++ [.inl (D.1 6, (120, .inl (fun _ => 0)))]) := by
  unfold WM
  show [(b + 0, mkM D b 0 (valsM nz 0)), (b + 1, mkM D b 1 (valsM nz 1)), (b + 2, mkM D b 2 (valsM nz 2)), (b + 3, mkM D b 3 (valsM nz 3)), (b + 4, mkM D b 4 (valsM nz 4)), (b + 5, mkM D b 5 (valsM nz 5)), (b + 6, mkM D b 6 (valsM nz 6)), (b + 7, mkM D b 7 (valsM nz 7))] = _
  simp only [valsM_z]
  rfl
def QN (D : va_G) (b : Nat) : Array Value → State → Outcome → State → Prop := fun _ st o t => o = .returned none ∧ b + 8 ≤ t.heap.size ∧ va_P D vwCl (WM D b nu0) t.heap ∧ va_F (bge b) st t
theorem nu0_up : va_up nz 1 frow = nu0 := by
  funext o
  unfold va_up nz nu0
  rfl
def rmX5_init : Room := { frames := 1, cells := 7, slots := 4017, locals := 40 }
theorem hd_X5_init : yX5_init.cls ≠ "java/lang/invoke/MethodHandle" ∧ yX5_init.cls ≠ "java/lang/invoke/VarHandle" ∧ (parseMethodDescriptor yX5_init.desc).map (fun d => d.parameters.length) = some 0 := by decide +kernel
set_option maxHeartbeats 8000000 in
set_option maxRecDepth 100000 in
theorem c_X5_init {l : Launch} {D : va_G} {b : Nat} : Met l yX5_init wsX5_init rmX5_init (va_Pc [.ref b] (fun U => U.heap.size = b + 1 ∧ va_P D vwCl (sq b 0 [.inr (5, [.int 0, .null, .null, .null, .null, .int 0, .null, .null, .null, .int 0, .int 0, .int 0, .int 0])]) U.heap ∧ KC D U)) (QN D b) 7 4017 (bge b) := by
  refine Met.ofW (cc := cX5_init) (maxL := 1) (ret := none) pn_X5 rfl ?_
  intro p e s m args below meth c s₁ B hml hv
  obtain ⟨rfl, hz, hP, hK⟩ := hv
  rw [lg_entry_eq]
  have hinit : meth.name = "<init>" := (name_of_methodNamed B.named B.method).1
  have F : CallFix p m c cX5_init 1 s ([Value.ref b].toArray) wsX5_init RX5 := ⟨B.exec, B.bytes, hml, findClass_of_methodNamed B.named, atoms_spec (ws := wsX5_init) B.pre⟩
  have hr := B.returns
  have hlk := B.notSynchronized
  have hS : va_S (bge b) s.heap s.heap [] := va_S.rf
  have hl := lv_entry [Value.ref b] (n := 1) (Nat.le_of_ble_eq_true rfl)
  generalize (lg_sl ([.ref b]) ++ List.replicate (1 - (lg_sl ([.ref b])).length) Slot.unset).toArray = ls at hl ⊢
  have hl : lv_has ls 1 [(0, .ref (b + 0))] := hl
  have hP : va_P D vwCl (sq b 0 [.inr (5, [.int 0, .null, .null, .null, .null, .int 0, .null, .null, .null, .int 0, .int 0, .int 0, .int 0])]) s.heap := hP
  refine lv_aload_n F.1 F.2.1 dX5_init_0 rfl (lv_at hl 0 rfl) ?_
  refine n_obj F (List.mem_of_getElem? (i := 1) rfl) (List.mem_of_getElem? (i := 2) rfl) (List.mem_of_getElem? (i := 3) rfl) hl.1 dX5_init_1 (Nat.le_of_ble_eq_true rfl) (Nat.le_of_ble_eq_true rfl) ?_
  refine lv_aload_n F.1 F.2.1 dX5_init_4 rfl (lv_at hl 0 rfl) ?_
  refine lv_sipush (v := (205 : Int32)) F.1 F.2.1 dX5_init_5 (by decide) ?_
  refine n_arr F hK 0 (ty := .int) rfl rfl (fun _ h => by cases h) (List.mem_of_getElem? (i := 4) rfl) hz rfl hP hS rfl (by decide) (N := 205) rfl (Nat.le_of_ble_eq_true rfl) (Nat.le_of_ble_eq_true rfl) (Nat.le_of_ble_eq_true rfl) dX5_init_8 (fun H hz hP hS => ?_)
  have hP : va_P D vwCl (sq b 0 ([.inr (5, [.int 0, .null, .null, .null, .null, .int 0, .null, .null, .null, .int 0, .int 0, .int 0, .int 0])] ++ [.inl (D.1 6, (205, .inl (fun _ => 0)))])) H := hP
  refine n_putF F hinit hK hz hP hS 0 rfl (fun _ h => List.mem_cons_of_mem _ (List.mem_append_right _ h)) tyX5 tyX5_ok nmX5 rfl 1 (Nat.le_of_ble_eq_true rfl) (List.mem_of_getElem? (i := 5) rfl) rfl rfl rfl (v := .ref (b + 1)) rfl rfl rfl (Nat.le_of_ble_eq_true rfl) (es' := ([.inr (5, [.int 0, .ref (b + 1), .null, .null, .null, .int 0, .null, .null, .null, .int 0, .int 0, .int 0, .int 0])] ++ [.inl (D.1 6, (205, .inl (fun _ => 0)))])) rfl dX5_init_10 (fun H locs hz hP hS => ?_)
  refine lv_aload_n F.1 F.2.1 dX5_init_13 rfl (lv_at hl 0 rfl) ?_
  refine lv_sipush (v := (205 : Int32)) F.1 F.2.1 dX5_init_14 (by decide) ?_
  refine n_arr F hK 0 (ty := .int) rfl rfl (fun _ h => by cases h) (List.mem_of_getElem? (i := 4) rfl) hz rfl hP hS rfl (by decide) (N := 205) rfl (Nat.le_of_ble_eq_true rfl) (Nat.le_of_ble_eq_true rfl) (Nat.le_of_ble_eq_true rfl) dX5_init_17 (fun H hz hP hS => ?_)
  have hP : va_P D vwCl (sq b 0 ([.inr (5, [.int 0, .ref (b + 1), .null, .null, .null, .int 0, .null, .null, .null, .int 0, .int 0, .int 0, .int 0])] ++ [.inl (D.1 6, (205, .inl (fun _ => 0)))] ++ [.inl (D.1 6, (205, .inl (fun _ => 0)))])) H := hP
  refine n_putF F hinit hK hz hP hS 0 rfl (fun _ h => List.mem_cons_of_mem _ (List.mem_append_right _ h)) tyX5 tyX5_ok nmX5 rfl 2 (Nat.le_of_ble_eq_true rfl) (List.mem_of_getElem? (i := 6) rfl) rfl rfl rfl (v := .ref (b + 2)) rfl rfl rfl (Nat.le_of_ble_eq_true rfl) (es' := ([.inr (5, [.int 0, .ref (b + 1), .ref (b + 2), .null, .null, .int 0, .null, .null, .null, .int 0, .int 0, .int 0, .int 0])] ++ [.inl (D.1 6, (205, .inl (fun _ => 0)))] ++ [.inl (D.1 6, (205, .inl (fun _ => 0)))])) rfl dX5_init_19 (fun H locs hz hP hS => ?_)
  refine lv_aload_n F.1 F.2.1 dX5_init_22 rfl (lv_at hl 0 rfl) ?_
  refine lv_sipush (v := (205 : Int32)) F.1 F.2.1 dX5_init_23 (by decide) ?_
  refine n_arr F hK 0 (ty := .int) rfl rfl (fun _ h => by cases h) (List.mem_of_getElem? (i := 4) rfl) hz rfl hP hS rfl (by decide) (N := 205) rfl (Nat.le_of_ble_eq_true rfl) (Nat.le_of_ble_eq_true rfl) (Nat.le_of_ble_eq_true rfl) dX5_init_26 (fun H hz hP hS => ?_)
  have hP : va_P D vwCl (sq b 0 ([.inr (5, [.int 0, .ref (b + 1), .ref (b + 2), .null, .null, .int 0, .null, .null, .null, .int 0, .int 0, .int 0, .int 0])] ++ [.inl (D.1 6, (205, .inl (fun _ => 0)))] ++ [.inl (D.1 6, (205, .inl (fun _ => 0)))] ++ [.inl (D.1 6, (205, .inl (fun _ => 0)))])) H := hP
  refine n_putF F hinit hK hz hP hS 0 rfl (fun _ h => List.mem_cons_of_mem _ (List.mem_append_right _ h)) tyX5 tyX5_ok nmX5 rfl 3 (Nat.le_of_ble_eq_true rfl) (List.mem_of_getElem? (i := 7) rfl) rfl rfl rfl (v := .ref (b + 3)) rfl rfl rfl (Nat.le_of_ble_eq_true rfl) (es' := ([.inr (5, [.int 0, .ref (b + 1), .ref (b + 2), .ref (b + 3), .null, .int 0, .null, .null, .null, .int 0, .int 0, .int 0, .int 0])] ++ [.inl (D.1 6, (205, .inl (fun _ => 0)))] ++ [.inl (D.1 6, (205, .inl (fun _ => 0)))] ++ [.inl (D.1 6, (205, .inl (fun _ => 0)))])) rfl dX5_init_28 (fun H locs hz hP hS => ?_)
  refine lv_aload_n F.1 F.2.1 dX5_init_31 rfl (lv_at hl 0 rfl) ?_
  refine lv_sipush (v := (2870 : Int32)) F.1 F.2.1 dX5_init_32 (by decide) ?_
  refine n_arr F hK 0 (ty := .int) rfl rfl (fun _ h => by cases h) (List.mem_of_getElem? (i := 4) rfl) hz rfl hP hS rfl (by decide) (N := 2870) rfl (Nat.le_of_ble_eq_true rfl) (Nat.le_of_ble_eq_true rfl) (Nat.le_of_ble_eq_true rfl) dX5_init_35 (fun H hz hP hS => ?_)
  have hP : va_P D vwCl (sq b 0 ([.inr (5, [.int 0, .ref (b + 1), .ref (b + 2), .ref (b + 3), .null, .int 0, .null, .null, .null, .int 0, .int 0, .int 0, .int 0])] ++ [.inl (D.1 6, (205, .inl (fun _ => 0)))] ++ [.inl (D.1 6, (205, .inl (fun _ => 0)))] ++ [.inl (D.1 6, (205, .inl (fun _ => 0)))] ++ [.inl (D.1 6, (2870, .inl (fun _ => 0)))])) H := hP
  refine n_putF F hinit hK hz hP hS 0 rfl (fun _ h => List.mem_cons_of_mem _ (List.mem_append_right _ h)) tyX5 tyX5_ok nmX5 rfl 4 (Nat.le_of_ble_eq_true rfl) (List.mem_of_getElem? (i := 8) rfl) rfl rfl rfl (v := .ref (b + 4)) rfl rfl rfl (Nat.le_of_ble_eq_true rfl) (es' := ([.inr (5, [.int 0, .ref (b + 1), .ref (b + 2), .ref (b + 3), .ref (b + 4), .int 0, .null, .null, .null, .int 0, .int 0, .int 0, .int 0])] ++ [.inl (D.1 6, (205, .inl (fun _ => 0)))] ++ [.inl (D.1 6, (205, .inl (fun _ => 0)))] ++ [.inl (D.1 6, (205, .inl (fun _ => 0)))] ++ [.inl (D.1 6, (2870, .inl (fun _ => 0)))])) rfl dX5_init_37 (fun H locs hz hP hS => ?_)
  refine lv_aload_n F.1 F.2.1 dX5_init_40 rfl (lv_at hl 0 rfl) ?_
  refine lv_sipush (v := (410 : Int32)) F.1 F.2.1 dX5_init_41 (by decide) ?_
  refine n_arr F hK 0 (ty := .int) rfl rfl (fun _ h => by cases h) (List.mem_of_getElem? (i := 4) rfl) hz rfl hP hS rfl (by decide) (N := 410) rfl (Nat.le_of_ble_eq_true rfl) (Nat.le_of_ble_eq_true rfl) (Nat.le_of_ble_eq_true rfl) dX5_init_44 (fun H hz hP hS => ?_)
  have hP : va_P D vwCl (sq b 0 ([.inr (5, [.int 0, .ref (b + 1), .ref (b + 2), .ref (b + 3), .ref (b + 4), .int 0, .null, .null, .null, .int 0, .int 0, .int 0, .int 0])] ++ [.inl (D.1 6, (205, .inl (fun _ => 0)))] ++ [.inl (D.1 6, (205, .inl (fun _ => 0)))] ++ [.inl (D.1 6, (205, .inl (fun _ => 0)))] ++ [.inl (D.1 6, (2870, .inl (fun _ => 0)))] ++ [.inl (D.1 6, (410, .inl (fun _ => 0)))])) H := hP
  refine n_putF F hinit hK hz hP hS 0 rfl (fun _ h => List.mem_cons_of_mem _ (List.mem_append_right _ h)) tyX5 tyX5_ok nmX5 rfl 6 (Nat.le_of_ble_eq_true rfl) (List.mem_of_getElem? (i := 9) rfl) rfl rfl rfl (v := .ref (b + 5)) rfl rfl rfl (Nat.le_of_ble_eq_true rfl) (es' := ([.inr (5, [.int 0, .ref (b + 1), .ref (b + 2), .ref (b + 3), .ref (b + 4), .int 0, .ref (b + 5), .null, .null, .int 0, .int 0, .int 0, .int 0])] ++ [.inl (D.1 6, (205, .inl (fun _ => 0)))] ++ [.inl (D.1 6, (205, .inl (fun _ => 0)))] ++ [.inl (D.1 6, (205, .inl (fun _ => 0)))] ++ [.inl (D.1 6, (2870, .inl (fun _ => 0)))] ++ [.inl (D.1 6, (410, .inl (fun _ => 0)))])) rfl dX5_init_46 (fun H locs hz hP hS => ?_)
  refine lv_aload_n F.1 F.2.1 dX5_init_49 rfl (lv_at hl 0 rfl) ?_
  refine lv_iconst (v := (2 : Int32)) F.1 F.2.1 dX5_init_50 (by decide) ?_
  refine n_arr F hK 1 (ty := .boolean) rfl rfl (fun _ h => by cases h) (List.mem_of_getElem? (i := 10) rfl) hz rfl hP hS rfl (by decide) (N := 2) rfl (Nat.le_of_ble_eq_true rfl) (Nat.le_of_ble_eq_true rfl) (Nat.le_of_ble_eq_true rfl) dX5_init_51 (fun H hz hP hS => ?_)
  have hP : va_P D vwCl (sq b 0 ([.inr (5, [.int 0, .ref (b + 1), .ref (b + 2), .ref (b + 3), .ref (b + 4), .int 0, .ref (b + 5), .null, .null, .int 0, .int 0, .int 0, .int 0])] ++ [.inl (D.1 6, (205, .inl (fun _ => 0)))] ++ [.inl (D.1 6, (205, .inl (fun _ => 0)))] ++ [.inl (D.1 6, (205, .inl (fun _ => 0)))] ++ [.inl (D.1 6, (2870, .inl (fun _ => 0)))] ++ [.inl (D.1 6, (410, .inl (fun _ => 0)))] ++ [.inl (D.1 7, (2, .inl (fun _ => 0)))])) H := hP
  refine n_putF F hinit hK hz hP hS 0 rfl (fun _ h => List.mem_cons_of_mem _ (List.mem_append_right _ h)) tyX5 tyX5_ok nmX5 rfl 7 (Nat.le_of_ble_eq_true rfl) (List.mem_of_getElem? (i := 11) rfl) rfl rfl rfl (v := .ref (b + 6)) rfl rfl rfl (Nat.le_of_ble_eq_true rfl) (es' := ([.inr (5, [.int 0, .ref (b + 1), .ref (b + 2), .ref (b + 3), .ref (b + 4), .int 0, .ref (b + 5), .ref (b + 6), .null, .int 0, .int 0, .int 0, .int 0])] ++ [.inl (D.1 6, (205, .inl (fun _ => 0)))] ++ [.inl (D.1 6, (205, .inl (fun _ => 0)))] ++ [.inl (D.1 6, (205, .inl (fun _ => 0)))] ++ [.inl (D.1 6, (2870, .inl (fun _ => 0)))] ++ [.inl (D.1 6, (410, .inl (fun _ => 0)))] ++ [.inl (D.1 7, (2, .inl (fun _ => 0)))])) rfl dX5_init_53 (fun H locs hz hP hS => ?_)
  refine lv_aload_n F.1 F.2.1 dX5_init_56 rfl (lv_at hl 0 rfl) ?_
  refine lv_bipush (v := (120 : Int32)) F.1 F.2.1 dX5_init_57 (by decide) ?_
  refine n_arr F hK 0 (ty := .int) rfl rfl (fun _ h => by cases h) (List.mem_of_getElem? (i := 4) rfl) hz rfl hP hS rfl (by decide) (N := 120) rfl (Nat.le_of_ble_eq_true rfl) (Nat.le_of_ble_eq_true rfl) (Nat.le_of_ble_eq_true rfl) dX5_init_59 (fun H hz hP hS => ?_)
  have hP : va_P D vwCl (sq b 0 ([.inr (5, [.int 0, .ref (b + 1), .ref (b + 2), .ref (b + 3), .ref (b + 4), .int 0, .ref (b + 5), .ref (b + 6), .null, .int 0, .int 0, .int 0, .int 0])] ++ [.inl (D.1 6, (205, .inl (fun _ => 0)))] ++ [.inl (D.1 6, (205, .inl (fun _ => 0)))] ++ [.inl (D.1 6, (205, .inl (fun _ => 0)))] ++ [.inl (D.1 6, (2870, .inl (fun _ => 0)))] ++ [.inl (D.1 6, (410, .inl (fun _ => 0)))] ++ [.inl (D.1 7, (2, .inl (fun _ => 0)))] ++ [.inl (D.1 6, (120, .inl (fun _ => 0)))])) H := hP
  refine n_putF F hinit hK hz hP hS 0 rfl (fun _ h => List.mem_cons_of_mem _ (List.mem_append_right _ h)) tyX5 tyX5_ok nmX5 rfl 8 (Nat.le_of_ble_eq_true rfl) (List.mem_of_getElem? (i := 12) rfl) rfl rfl rfl (v := .ref (b + 7)) rfl rfl rfl (Nat.le_of_ble_eq_true rfl) (es' := ([.inr (5, [.int 0, .ref (b + 1), .ref (b + 2), .ref (b + 3), .ref (b + 4), .int 0, .ref (b + 5), .ref (b + 6), .ref (b + 7), .int 0, .int 0, .int 0, .int 0])] ++ [.inl (D.1 6, (205, .inl (fun _ => 0)))] ++ [.inl (D.1 6, (205, .inl (fun _ => 0)))] ++ [.inl (D.1 6, (205, .inl (fun _ => 0)))] ++ [.inl (D.1 6, (2870, .inl (fun _ => 0)))] ++ [.inl (D.1 6, (410, .inl (fun _ => 0)))] ++ [.inl (D.1 7, (2, .inl (fun _ => 0)))] ++ [.inl (D.1 6, (120, .inl (fun _ => 0)))])) rfl dX5_init_61 (fun H locs hz hP hS => ?_)
  refine lv_aload_n F.1 F.2.1 dX5_init_64 rfl (lv_at hl 0 rfl) ?_
  refine n_getR F hK hP 0 rfl (fun _ h => List.mem_cons_of_mem _ (List.mem_append_right _ h)) rfl 1 (Nat.le_of_ble_eq_true rfl) (List.mem_of_getElem? (i := 5) rfl) rfl (v := .ref (b + 1)) rfl dX5_init_65 ?_
  have hPM : va_P D vwCl (WM D b (va_up nz 1 (nz 1))) H := by rw [mu_self, WM_z]; exact hP
  refine n_callM (A := bge b) (rest := []) F hK.1 hPM hS (fun q h => h.1) (c_X5_fresh (ρ := 1) (by decide) (by decide) (X5_fresh (g := nz 1) (fun _ _ => rfl))) (va_cwS 1 F.2.2.2.2 gX5_init_X5_fresh rfl rfl rfl hd_X5_fresh ⟨(Nat.le_of_ble_eq_true rfl), (Nat.le_of_ble_eq_true rfl)⟩) rfl rfl hl.1 (Nat.le_of_ble_eq_true rfl) dX5_init_68 ⟨(Nat.le_of_ble_eq_true rfl), (Nat.le_of_ble_eq_true rfl)⟩ (fun H locs hz2 hP hS => ?_)
  rw [nu0_up] at hP
  refine W.widen (k := 7) (n := 4017) (Nat.le_of_ble_eq_true rfl) (Nat.le_of_ble_eq_true rfl) ?_
  exact W.vret F.1 F.2.1 hr (fun t ht hW => ⟨rfl, by rw [ht]; omega, by rw [ht]; exact hP, hS.F ht⟩) hS.2.2 dX5_init_71 hlk
