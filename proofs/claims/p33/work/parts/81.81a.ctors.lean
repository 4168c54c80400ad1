-- FrostTubes$Site.<init>
def esX2 (D : va_G) (b : Nat) : List va_E := ([.inr (2, [.int 0, .int 0, .int 0, .int 0, .int 0, .ref (b + 1)])] ++ [.inl (D.1 6, (30, .inl (fun _ => (-1 : Int32))))])
def rmX2_init : Room := { frames := 1, cells := 1, slots := 30, locals := 23 }
theorem hd_X2_init : yX2_init.cls ≠ "java/lang/invoke/MethodHandle" ∧ yX2_init.cls ≠ "java/lang/invoke/VarHandle" ∧ (parseMethodDescriptor yX2_init.desc).map (fun d => d.parameters.length) = some 0 := by decide +kernel
set_option maxHeartbeats 8000000 in
set_option maxRecDepth 100000 in
theorem c_X2_init {l : Launch} {D : va_G} {b : Nat} : NC l yX2_init wsX2_init rmX2_init 1 30 D b 2 (.inr (2, [.int 0, .int 0, .int 0, .int 0, .int 0, .null])) (esX2 D b) := by
  refine NC.of (cc := cX2_init) (maxL := 1) pn_X2 rfl (Nat.le_of_ble_eq_true rfl) rfl ?_
  intro p e s m args below meth c F hr hlk hinit hK ls H locs hl hz hP hS
  have hl : lv_has ls 1 [(0, .ref (b + 0))] := hl
  refine lv_aload_n F.1 F.2.1 dX2_init_0 rfl (lv_at hl 0 rfl) ?_
  refine n_obj F (List.mem_of_getElem? (i := 1) rfl) (List.mem_of_getElem? (i := 2) rfl) (List.mem_of_getElem? (i := 3) rfl) hl.1 dX2_init_1 (Nat.le_of_ble_eq_true rfl) (Nat.le_of_ble_eq_true rfl) ?_
  refine lv_aload_n F.1 F.2.1 dX2_init_4 rfl (lv_at hl 0 rfl) ?_
  refine lv_bipush (v := (30 : Int32)) F.1 F.2.1 dX2_init_5 (by decide) ?_
  refine n_arr F hK 0 (ty := .int) rfl rfl (fun _ h => by cases h) (List.mem_of_getElem? (i := 4) rfl) hz rfl hP hS rfl (by decide) (N := 30) rfl (Nat.le_of_ble_eq_true rfl) (Nat.le_of_ble_eq_true rfl) (Nat.le_of_ble_eq_true rfl) dX2_init_7 (fun H hz hP hS => ?_)
  have hP : va_P D vwCl (sq b 0 ([.inr (2, [.int 0, .int 0, .int 0, .int 0, .int 0, .null])] ++ [.inl (D.1 6, (30, .inl (fun _ => 0)))])) H := hP
  refine n_putF F hinit hK hz hP hS 0 rfl (fun _ h => List.mem_cons_of_mem _ (List.mem_append_right _ h)) tyX2 tyX2_ok nmX2 rfl 5 (Nat.le_of_ble_eq_true rfl) (List.mem_of_getElem? (i := 5) rfl) rfl rfl rfl (v := .ref (b + 1)) rfl rfl rfl (Nat.le_of_ble_eq_true rfl) (es' := ([.inr (2, [.int 0, .int 0, .int 0, .int 0, .int 0, .ref (b + 1)])] ++ [.inl (D.1 6, (30, .inl (fun _ => 0)))])) rfl dX2_init_9 (fun H locs hz hP hS => ?_)
  refine lv_aload_n F.1 F.2.1 dX2_init_12 rfl (lv_at hl 0 rfl) ?_
  refine n_getR F hK hP 0 rfl (fun _ h => List.mem_cons_of_mem _ (List.mem_append_right _ h)) rfl 5 (Nat.le_of_ble_eq_true rfl) (List.mem_of_getElem? (i := 5) rfl) rfl (v := .ref (b + 1)) rfl dX2_init_13 ?_
  refine lv_iconst (v := (-1 : Int32)) F.1 F.2.1 dX2_init_16 (by decide) ?_
  refine n_fill F hK hz hP hS 1 (by decide) rfl (v := (-1 : Int32)) ⟨callB_of 2 F.2.2.2.2 (goodIn_p _ [9] rfl (by decide +kernel)) rfl rfl rfl (F.2.2.2.2 _ (List.mem_of_getElem? (i := 8) rfl)) (F.2.2.2.2 _ (List.mem_of_getElem? (i := 6) rfl)) ⟨by decide +kernel, by decide +kernel, by decide +kernel⟩ ⟨(Nat.le_of_ble_eq_true rfl), (Nat.le_of_ble_eq_true rfl)⟩, F.2.2.2.2 _ (List.mem_of_getElem? (i := 7) rfl)⟩ hl.1 (Nat.le_of_ble_eq_true rfl) dX2_init_17 ⟨(Nat.le_of_ble_eq_true rfl), (Nat.le_of_ble_eq_true rfl)⟩ (es' := ([.inr (2, [.int 0, .int 0, .int 0, .int 0, .int 0, .ref (b + 1)])] ++ [.inl (D.1 6, (30, .inl (fun _ => (-1 : Int32))))])) rfl (fun H locs hz hP hS => ?_)
  exact n_ret F hr hlk hz hP hS (Nat.le_of_ble_eq_true rfl) (Nat.le_of_ble_eq_true rfl) dX2_init_20

-- FrostTubes$Text.<init>
def esX3 (D : va_G) (b : Nat) : List va_E := ([.inr (3, [.ref (b + 1), .int 0, .int 0, .int 0, .int 0, .int 0, .int 0, .int 0])] ++ [.inl (D.1 6, (120, .inl (fun _ => 0)))])
def rmX3_init : Room := { frames := 1, cells := 1, slots := 120, locals := 20 }
theorem hd_X3_init : yX3_init.cls ≠ "java/lang/invoke/MethodHandle" ∧ yX3_init.cls ≠ "java/lang/invoke/VarHandle" ∧ (parseMethodDescriptor yX3_init.desc).map (fun d => d.parameters.length) = some 0 := by decide +kernel
set_option maxHeartbeats 8000000 in
set_option maxRecDepth 100000 in
theorem c_X3_init {l : Launch} {D : va_G} {b : Nat} : NC l yX3_init wsX3_init rmX3_init 1 120 D b 2 (.inr (3, [.null, .int 0, .int 0, .int 0, .int 0, .int 0, .int 0, .int 0])) (esX3 D b) := by
  refine NC.of (cc := cX3_init) (maxL := 1) pn_X3 rfl (Nat.le_of_ble_eq_true rfl) rfl ?_
  intro p e s m args below meth c F hr hlk hinit hK ls H locs hl hz hP hS
  have hl : lv_has ls 1 [(0, .ref (b + 0))] := hl
  refine lv_aload_n F.1 F.2.1 dX3_init_0 rfl (lv_at hl 0 rfl) ?_
  refine n_obj F (List.mem_of_getElem? (i := 1) rfl) (List.mem_of_getElem? (i := 2) rfl) (List.mem_of_getElem? (i := 3) rfl) hl.1 dX3_init_1 (Nat.le_of_ble_eq_true rfl) (Nat.le_of_ble_eq_true rfl) ?_
  refine lv_aload_n F.1 F.2.1 dX3_init_4 rfl (lv_at hl 0 rfl) ?_
  refine lv_bipush (v := (120 : Int32)) F.1 F.2.1 dX3_init_5 (by decide) ?_
  refine n_arr F hK 0 (ty := .int) rfl rfl (fun _ h => by cases h) (List.mem_of_getElem? (i := 4) rfl) hz rfl hP hS rfl (by decide) (N := 120) rfl (Nat.le_of_ble_eq_true rfl) (Nat.le_of_ble_eq_true rfl) (Nat.le_of_ble_eq_true rfl) dX3_init_7 (fun H hz hP hS => ?_)
  have hP : va_P D vwCl (sq b 0 ([.inr (3, [.null, .int 0, .int 0, .int 0, .int 0, .int 0, .int 0, .int 0])] ++ [.inl (D.1 6, (120, .inl (fun _ => 0)))])) H := hP
  refine n_putF F hinit hK hz hP hS 0 rfl (fun _ h => List.mem_cons_of_mem _ (List.mem_append_right _ h)) tyX3 tyX3_ok nmX3 rfl 0 (Nat.le_of_ble_eq_true rfl) (List.mem_of_getElem? (i := 5) rfl) rfl rfl rfl (v := .ref (b + 1)) rfl rfl rfl (Nat.le_of_ble_eq_true rfl) (es' := ([.inr (3, [.ref (b + 1), .int 0, .int 0, .int 0, .int 0, .int 0, .int 0, .int 0])] ++ [.inl (D.1 6, (120, .inl (fun _ => 0)))])) rfl dX3_init_9 (fun H locs hz hP hS => ?_)
  exact n_ret F hr hlk hz hP hS (Nat.le_of_ble_eq_true rfl) (Nat.le_of_ble_eq_true rfl) dX3_init_12

